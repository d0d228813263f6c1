/-! PAGEROW: its contracts. rW: a row object p, its array q, the pages L, what the array holds f -/
abbrev rW (K : gT) (p q : Nat) (L : List Nat) (f : Nat → Int32) : va_W := [(p, .inr (0, [.ref q, .int (nI L.length)])), (q, .inl (K.2.1, 17, .inl f))]
abbrev rmX0_init : Room := { frames := 1, cells := 1, slots := 17, locals := 40 }
theorem wdX0_init_ml3 : Cond.methodLink RX0 3 objectInit ∈ wsX0_init := by decide +kernel
theorem wdX0_init_oi : Cond.instanceMethod objectInit ∈ wsX0_init := by decide +kernel
theorem wdX0_init_oc : Cond.code objectInit ⟨#[0xb1]⟩ 1 none ∈ wsX0_init := by decide +kernel
theorem wdX0_init_arint : Cond.arrayClass .int ∈ wsX0_init := by decide +kernel
theorem flX0_init_11 : Cond.fieldLink RX0 11 "TwoTierCache$PageRow" "pages" "[I" ∈ wsX0_init := by decide +kernel
theorem inX0_init_X0 : ∀ w ∈ u_ws RX0 TX0 2, w ∈ wsX0_init := by decide +kernel
set_option maxHeartbeats 4000000 in
set_option maxRecDepth 100000 in
/-- PageRow(): an array of 17 places -/
theorem c_X0_init (l : Launch) (K : gT) (p : Nat) : Cv l yX0_init wsX0_init rmX0_init K [.ref p] [(p, .inr (0, [.null, .int 0]))] (fun (u : Nat) => True) (fun u => [(p, .inr (0, [.ref u, .int 0])), (u, .inl (K.2.1, 17, .inl (fun _ => 0)))]) 1 17 := by
  refine m_v (cc := cX0_init) (own := RX0) (maxL := 1) (lv0 := [(0, .ref p)]) (by decide) rfl rfl (Nat.le_of_ble_eq_true rfl) rfl ?_
  intro X hX hin hret
  refine g_aload_n (pc := 0) hX dX0_init_0 rfl 0 rfl ?_
  refine g_objInit (pc := 1) hX wdX0_init_ml3 wdX0_init_oi wdX0_init_oc (Nat.le_of_ble_eq_true rfl) (Nat.le_of_ble_eq_true rfl) dX0_init_1 ?_
  refine g_aload_n (pc := 4) hX dX0_init_4 rfl 0 rfl ?_
  refine g_bipush (pc := 5) (v := (nI 17)) hX dX0_init_5 (by decide) ?_
  refine g_newI (pc := 7) hX wdX0_init_arint (by decide) (by decide) (Nat.le_of_ble_eq_true rfl) (Nat.le_of_ble_eq_true rfl) dX0_init_7 (fun q7 => ?_)
  refine g_putF (pc := 9) (C := RX0) (T := TX0) (N := 2) (ci := 0) (v := .ref q7) (ws' := [(p, .inr (0, [.ref q7, .int 0])), (q7, .inl (K.2.1, 17, .inl (fun _ => 0)))]) hX (hin rfl) inX0_init_X0 tyX0 tyX0_ok nmX0 0 rfl rfl 0 (by decide) flX0_init_11 rfl rfl rfl rfl rfl (Nat.le_of_ble_eq_true rfl) rfl dX0_init_9 ?_
  exact hret (u := q7) dX0_init_12 trivial rfl
abbrev rmX0_clear : Room := { frames := 0, cells := 0, slots := 0, locals := 0 }
theorem flX0_clear_15 : Cond.fieldLink RX0 15 "TwoTierCache$PageRow" "size" "I" ∈ wsX0_clear := by decide +kernel
theorem inX0_clear_X0 : ∀ w ∈ u_ws RX0 TX0 2, w ∈ wsX0_clear := by decide +kernel
set_option maxHeartbeats 4000000 in
set_option maxRecDepth 100000 in
/-- clear -/
theorem c_X0_clear (l : Launch) (K : gT) (p q : Nat) (L : List Nat) (f : Nat → Int32) : Cv l yX0_clear wsX0_clear rmX0_clear K [.ref p] [(p, .inr (0, [.ref q, .int (nI L.length)])), (q, .inl (K.2.1, 17, .inl f))] (fun (u : Unit) => True) (fun u => [(p, .inr (0, [.ref q, .int (nI (([] : List Nat).length))])), (q, .inl (K.2.1, 17, .inl f))]) 0 0 := by
  refine m_v (cc := cX0_clear) (own := RX0) (maxL := 1) (lv0 := [(0, .ref p)]) (by decide) rfl rfl (Nat.le_of_ble_eq_true rfl) rfl ?_
  intro X hX hin hret
  refine g_aload_n (pc := 0) hX dX0_clear_0 rfl 0 rfl ?_
  refine g_iconst (pc := 1) (v := (nI 0)) hX dX0_clear_1 (by decide) ?_
  refine g_put (pc := 2) (C := RX0) (T := TX0) (N := 2) (ci := 0) (v := .int (nI 0)) (ws' := [(p, .inr (0, [.ref q, .int (nI 0)])), (q, .inl (K.2.1, 17, .inl f))]) hX inX0_clear_X0 tyX0 tyX0_ok nmX0 0 rfl rfl 1 (by decide) flX0_clear_15 rfl rfl rfl rfl (Nat.le_of_ble_eq_true rfl) rfl dX0_clear_2 ?_
  exact hret (u := ()) dX0_clear_5 trivial rfl
abbrev rmX0_size : Room := { frames := 0, cells := 0, slots := 0, locals := 0 }
theorem flX0_size_15 : Cond.fieldLink RX0 15 "TwoTierCache$PageRow" "size" "I" ∈ wsX0_size := by decide +kernel
theorem inX0_size_X0 : ∀ w ∈ u_ws RX0 TX0 2, w ∈ wsX0_size := by decide +kernel
set_option maxHeartbeats 4000000 in
set_option maxRecDepth 100000 in
/-- size -/
theorem c_X0_size (l : Launch) (K : gT) (p q : Nat) (L : List Nat) (f : Nat → Int32) : Ci l yX0_size wsX0_size rmX0_size K [.ref p] [(p, .inr (0, [.ref q, .int (nI L.length)])), (q, .inl (K.2.1, 17, .inl f))] (fun (r : Int32) (u : Unit) => r = nI L.length) (fun u => [(p, .inr (0, [.ref q, .int (nI L.length)])), (q, .inl (K.2.1, 17, .inl f))]) 0 0 := by
  refine m_i (cc := cX0_size) (own := RX0) (maxL := 1) (lv0 := [(0, .ref p)]) (by decide) rfl rfl (Nat.le_of_ble_eq_true rfl) rfl ?_
  intro X hX hin hret
  refine g_aload_n (pc := 0) hX dX0_size_0 rfl 0 rfl ?_
  refine g_get (pc := 1) (C := RX0) (T := TX0) (N := 2) (ci := 0) (v := .int (nI L.length)) hX inX0_size_X0 0 rfl rfl 1 (by decide) flX0_size_15 rfl rfl dX0_size_1 ?_
  exact hret (u := ()) dX0_size_4 rfl rfl
theorem nI_nle2 {a b : Nat} (h : a < b) (hb : b < 2 ^ 31) : ¬ nI b ≤ nI a := fun q => absurd ((nI_leI hb (by omega)).mp q) (by omega)
abbrev rmX0_at : Room := { frames := 0, cells := 0, slots := 0, locals := 0 }
theorem flX0_at_15 : Cond.fieldLink RX0 15 "TwoTierCache$PageRow" "size" "I" ∈ wsX0_at := by decide +kernel
theorem inX0_at_X0 : ∀ w ∈ u_ws RX0 TX0 2, w ∈ wsX0_at := by decide +kernel
theorem flX0_at_11 : Cond.fieldLink RX0 11 "TwoTierCache$PageRow" "pages" "[I" ∈ wsX0_at := by decide +kernel
set_option maxHeartbeats 4000000 in
set_option maxRecDepth 100000 in
/-- at -/
theorem c_X0_at (l : Launch) (K : gT) (p q : Nat) (L : List Nat) (f : Nat → Int32) (hR : rowR f L) (i : Int32) : Ci l yX0_at wsX0_at rmX0_at K [.ref p, .int i] [(p, .inr (0, [.ref q, .int (nI L.length)])), (q, .inl (K.2.1, 17, .inl f))] (fun (r : Int32) (u : Unit) => r = atI L i) (fun u => [(p, .inr (0, [.ref q, .int (nI L.length)])), (q, .inl (K.2.1, 17, .inl f))]) 0 0 := by
  refine m_i (cc := cX0_at) (own := RX0) (maxL := 2) (lv0 := [(0, .ref p), (1, .int i)]) (by decide) rfl rfl (Nat.le_of_ble_eq_true rfl) rfl ?_
  intro X hX hin hret
  have hlen := hR.1
  refine g_iload_n (pc := 0) hX dX0_at_0 rfl 1 rfl ?_
  refine g_if_lt (pc := 1) (tgt := 21) hX dX0_at_1 (by decide) (fun c1 => ?_) (fun c1 => ?_)
  · refine g_iconst (pc := 21) (v := (-1)) hX dX0_at_21 (by decide) ?_
    exact hret (u := ()) dX0_at_22 (by unfold atI; rw [if_pos c1]) rfl
  · refine g_iload_n (pc := 4) hX dX0_at_4 rfl 1 rfl ?_
    refine g_aload_n (pc := 5) hX dX0_at_5 rfl 0 rfl ?_
    refine g_get (pc := 6) (C := RX0) (T := TX0) (N := 2) (ci := 0) (v := .int (nI L.length)) hX inX0_at_X0 0 rfl rfl 1 (by decide) flX0_at_15 rfl rfl dX0_at_6 ?_
    refine g_icmp_ge (pc := 9) (tgt := 21) hX dX0_at_9 (by decide) (fun c9 => ?_) (fun c9 => ?_)
    · refine g_iconst (pc := 21) (v := (-1)) hX dX0_at_21 (by decide) ?_
      exact hret (u := ()) dX0_at_22 (by unfold atI; rw [if_neg c1, if_pos c9]) rfl
    · obtain ⟨j, hj, rfl⟩ : ∃ j : Nat, j < L.length ∧ i = nI j := by
        rcases pk_ix i (n := L.length) (by omega) with h | h | h
        · exact absurd h c1
        · exact absurd h c9
        · exact h
      refine g_aload_n (pc := 12) hX dX0_at_12 rfl 0 rfl ?_
      refine g_get (pc := 13) (C := RX0) (T := TX0) (N := 2) (ci := 0) (v := .ref q) hX inX0_at_X0 0 rfl rfl 0 (by decide) flX0_at_11 rfl rfl dX0_at_13 ?_
      refine g_iload_n (pc := 16) hX dX0_at_16 rfl 1 rfl ?_
      refine g_iald (pc := 17) (v := (nI (L.getD j 0))) hX 1 rfl (by omega) (by omega) (hR.2.2 _ (by omega)) dX0_at_17 ?_
      refine g_goto (pc := 18) (tgt := 22) hX dX0_at_18 (by decide) ?_
      exact hret (u := ()) dX0_at_22 (by unfold atI; rw [if_neg (nI_pos (by omega)), if_neg (nI_nle2 hj (by omega)), nI_clamp (by omega)]) rfl
abbrev rmX0_placeOf : Room := { frames := 0, cells := 0, slots := 0, locals := 0 }
theorem flX0_placeOf_15 : Cond.fieldLink RX0 15 "TwoTierCache$PageRow" "size" "I" ∈ wsX0_placeOf := by decide +kernel
theorem inX0_placeOf_X0 : ∀ w ∈ u_ws RX0 TX0 2, w ∈ wsX0_placeOf := by decide +kernel
theorem flX0_placeOf_11 : Cond.fieldLink RX0 11 "TwoTierCache$PageRow" "pages" "[I" ∈ wsX0_placeOf := by decide +kernel
set_option maxHeartbeats 4000000 in
set_option maxRecDepth 100000 in
/-- placeOf -/
theorem c_X0_placeOf (l : Launch) (K : gT) (p q : Nat) (L : List Nat) (f : Nat → Int32) (hR : rowR f L) (x : Nat) (hx : x < 64) : Ci l yX0_placeOf wsX0_placeOf rmX0_placeOf K [.ref p, .int (nI x)] [(p, .inr (0, [.ref q, .int (nI L.length)])), (q, .inl (K.2.1, 17, .inl f))] (fun (r : Int32) (u : Unit) => r = plI L x) (fun u => [(p, .inr (0, [.ref q, .int (nI L.length)])), (q, .inl (K.2.1, 17, .inl f))]) 0 0 := by
  refine m_i (cc := cX0_placeOf) (own := RX0) (maxL := 3) (lv0 := [(0, .ref p), (1, .int (nI x))]) (by decide) rfl rfl (Nat.le_of_ble_eq_true rfl) rfl ?_
  intro X hX hin hret
  have hlen := hR.1
  refine g_iconst (pc := 0) (v := (nI 0)) hX dX0_placeOf_0 (by decide) ?_
  refine g_istore_n (pc := 1) (lv' := [(2, .int (nI 0)), (0, .ref p), (1, .int (nI x))]) hX dX0_placeOf_1 rfl (by decide) rfl ?_
  have loop : ∀ (z i : Nat), L.length - i < z → i ≤ L.length → (∀ j, j < i → L.getD j 0 ≠ x) → VG X l rmX0_placeOf K 3 0 0 [(p, .inr (0, [.ref q, .int (nI L.length)])), (q, .inl (K.2.1, 17, .inl f))] [(2, .int (nI i)), (0, .ref p), (1, .int (nI x))] [] 2 := by
    intro z
    induction z with
    | zero => intro i h1; exact absurd h1 (Nat.not_lt_zero _)
    | succ z ih =>
      intro i h1 h2 h3
      refine g_iload_n (pc := 2) hX dX0_placeOf_2 rfl 0 rfl ?_
      refine g_aload_n (pc := 3) hX dX0_placeOf_3 rfl 1 rfl ?_
      refine g_get (pc := 4) (C := RX0) (T := TX0) (N := 2) (ci := 0) (v := .int (nI L.length)) hX inX0_placeOf_X0 0 rfl rfl 1 (by decide) flX0_placeOf_15 rfl rfl dX0_placeOf_4 ?_
      refine g_icmpN_ge (pc := 7) (tgt := 28) hX (by omega) (by omega) dX0_placeOf_7 (by decide) (fun c7 => ?_) (fun c7 => ?_)
      · refine g_iconst (pc := 28) (v := (-1)) hX dX0_placeOf_28 (by decide) ?_
        exact hret (u := ()) dX0_placeOf_29 (by rw [plI_out (nomem_of (fun j hj => h3 j (by omega)))]) rfl
      · have hg := hR.mem (i := i) c7
        refine g_aload_n (pc := 10) hX dX0_placeOf_10 rfl 1 rfl ?_
        refine g_get (pc := 11) (C := RX0) (T := TX0) (N := 2) (ci := 0) (v := .ref q) hX inX0_placeOf_X0 0 rfl rfl 0 (by decide) flX0_placeOf_11 rfl rfl dX0_placeOf_11 ?_
        refine g_iload_n (pc := 14) hX dX0_placeOf_14 rfl 0 rfl ?_
        refine g_iald (pc := 15) (v := (nI (L.getD i 0))) hX 1 rfl (by omega) (by omega) (hR.2.2 _ (by omega)) dX0_placeOf_15 ?_
        refine g_iload_n (pc := 16) hX dX0_placeOf_16 rfl 2 rfl ?_
        refine g_icmpN_ne (pc := 17) (tgt := 22) hX (by omega) (by omega) dX0_placeOf_17 (by decide) (fun c17 => ?_) (fun c17 => ?_)
        · refine g_iinc (pc := 22) (z := 0) (v := (nI (i + 1))) (lv' := [(2, .int (nI (i + 1))), (0, .ref p), (1, .int (nI x))]) hX dX0_placeOf_22 rfl (by first | exact nI_add _ _ | rfl) (by decide) rfl ?_
          refine g_sub [0, 1, 2] (lv' := [(2, .int (nI (i + 1))), (0, .ref p), (1, .int (nI x))]) rfl ?_
          refine g_goto (pc := 25) (tgt := 2) hX dX0_placeOf_25 (by decide) ?_
          exact ih (i + 1) (by omega) (by omega) (fun j hj => by
            rcases Nat.lt_or_ge j i with q | q
            · exact h3 j q
            · rw [show j = i by omega]; exact c17)
        · refine g_iload_n (pc := 20) hX dX0_placeOf_20 rfl 0 rfl ?_
          obtain ⟨hm, he⟩ := ix_of c7 c17 h3
          exact hret (u := ()) dX0_placeOf_21 (by rw [plI_in hm, he]) rfl
  exact loop _ 0 (Nat.lt_succ_self _) (Nat.zero_le _) (fun j hj => absurd hj (Nat.not_lt_zero _))
abbrev rmX0_has : Room := { frames := 1, cells := 0, slots := 0, locals := 22 }
theorem nX0_placeOfV : yX0_placeOf.cls = RX0 ∧ yX0_placeOf.cls ≠ "java/lang/invoke/MethodHandle" ∧ yX0_placeOf.cls ≠ "java/lang/invoke/VarHandle" ∧ (parseMethodDescriptor yX0_placeOf.desc).map (fun d => d.parameters.length) = some 1 := by decide +kernel
set_option maxHeartbeats 4000000 in
set_option maxRecDepth 100000 in
/-- has -/
theorem c_X0_has (l : Launch) (K : gT) (p q : Nat) (L : List Nat) (f : Nat → Int32) (hR : rowR f L) (x : Nat) (hx : x < 64) : Ci l yX0_has wsX0_has rmX0_has K [.ref p, .int (nI x)] [(p, .inr (0, [.ref q, .int (nI L.length)])), (q, .inl (K.2.1, 17, .inl f))] (fun (r : Int32) (u : Unit) => r = bI (decide (x ∈ L))) (fun u => [(p, .inr (0, [.ref q, .int (nI L.length)])), (q, .inl (K.2.1, 17, .inl f))]) 0 0 := by
  refine m_z (cc := cX0_has) (own := RX0) (maxL := 2) (lv0 := [(0, .ref p), (1, .int (nI x))]) (by decide) rfl rfl (Nat.le_of_ble_eq_true rfl) rfl ?_
  intro X hX hin hret
  have hlen := hR.1
  refine g_aload_n (pc := 0) hX dX0_has_0 rfl 0 rfl ?_
  refine g_iload_n (pc := 1) hX dX0_has_1 rfl 1 rfl ?_
  refine g_ci (pc := 2) hX (wc := [(p, .inr (0, [.ref q, .int (nI L.length)])), (q, .inl (K.2.1, 17, .inl f))]) (wr := []) (Wd' := fun u => [(p, .inr (0, [.ref q, .int (nI L.length)])), (q, .inl (K.2.1, 17, .inl f))]) (g_goV (pc := 2) hX (As := [.int (nI x)]) (stk := []) (wc := [(p, .inr (0, [.ref q, .int (nI L.length)])), (q, .inl (K.2.1, 17, .inl f))]) (c_X0_placeOf l K p q L f hR x (by omega)) rfl rfl rfl gX0_has_X0_placeOf nX0_placeOfV rfl 0 rfl ⟨(Nat.le_of_ble_eq_true rfl), (Nat.le_of_ble_eq_true rfl)⟩ [0, 1] rfl rfl rfl (Nat.le_of_ble_eq_true rfl) dX0_has_2 ⟨(Nat.le_of_ble_eq_true rfl), (Nat.le_of_ble_eq_true rfl)⟩) [0, 1] [] [0, 1] rfl rfl rfl (by decide) rfl (fun _ => rfl) (fun r u h2 => ?_)
  obtain rfl := h2
  by_cases hm : x ∈ L
  · refine g_top (y := (nI (ix L x))) (plI_in hm) ?_
    have hix := ix_lt hm
    refine g_iconst (pc := 5) (v := (-1)) hX dX0_has_5 (by decide) ?_
    refine g_icmp_eq (pc := 6) (tgt := 13) hX dX0_has_6 (by decide) (fun c6 => absurd c6 (nI_m1 (by omega))) (fun c6 => ?_)
    refine g_iconst (pc := 9) (v := (nI 1)) hX dX0_has_9 (by decide) ?_
    refine g_goto (pc := 10) (tgt := 14) hX dX0_has_10 (by decide) ?_
    refine g_top (y := bI true) (by decide) ?_
    exact hret (v := true) (u := ()) dX0_has_14 (by rw [bI_mem hm]; rfl) rfl
  · refine g_top (y := (-1)) (plI_out hm) ?_
    refine g_iconst (pc := 5) (v := (-1)) hX dX0_has_5 (by decide) ?_
    refine g_icmp_eq (pc := 6) (tgt := 13) hX dX0_has_6 (by decide) (fun c6 => ?_) (fun c6 => ?_)
    · refine g_iconst (pc := 13) (v := (nI 0)) hX dX0_has_13 (by decide) ?_
      refine g_top (y := bI false) (by decide) ?_
      exact hret (v := false) (u := ()) dX0_has_14 (by rw [bI_nomem hm]; rfl) rfl
    · refine g_iconst (pc := 9) (v := (nI 1)) hX dX0_has_9 (by decide) ?_
      refine g_goto (pc := 10) (tgt := 14) hX dX0_has_10 (by decide) ?_
      exact absurd rfl c6
abbrev rmX0_addHead : Room := { frames := 1, cells := 0, slots := 0, locals := 40 }
theorem flX0_addHead_15 : Cond.fieldLink RX0 15 "TwoTierCache$PageRow" "size" "I" ∈ wsX0_addHead := by decide +kernel
theorem inX0_addHead_X0 : ∀ w ∈ u_ws RX0 TX0 2, w ∈ wsX0_addHead := by decide +kernel
theorem flX0_addHead_11 : Cond.fieldLink RX0 11 "TwoTierCache$PageRow" "pages" "[I" ∈ wsX0_addHead := by decide +kernel
theorem wdX0_addHead_ml23 : Cond.methodLink RX0 23 arraycopyName ∈ wsX0_addHead := by decide +kernel
theorem wdX0_addHead_an : Cond.native arraycopyName ∈ wsX0_addHead := by decide +kernel
theorem wdX0_addHead_as : Cond.static arraycopyName ∈ wsX0_addHead := by decide +kernel
theorem wdX0_addHead_ai : Cond.initialized "java/lang/System" ∈ wsX0_addHead := by decide +kernel
set_option maxHeartbeats 4000000 in
set_option maxRecDepth 100000 in
/-- addHead -/
theorem c_X0_addHead (l : Launch) (K : gT) (p q : Nat) (L : List Nat) (f : Nat → Int32) (hR : rowR f L) (x : Nat) (hx : x < 64) (hl : L.length < 17) : Cv l yX0_addHead wsX0_addHead rmX0_addHead K [.ref p, .int (nI x)] [(p, .inr (0, [.ref q, .int (nI L.length)])), (q, .inl (K.2.1, 17, .inl f))] (fun (u : Nat → Int32) => rowR u (x :: L)) (fun u => [(p, .inr (0, [.ref q, .int (nI ((x :: L).length))])), (q, .inl (K.2.1, 17, .inl u))]) 0 0 := by
  refine m_v (cc := cX0_addHead) (own := RX0) (maxL := 2) (lv0 := [(0, .ref p), (1, .int (nI x))]) (by decide) rfl rfl (Nat.le_of_ble_eq_true rfl) rfl ?_
  intro X hX hin hret
  have hlen := hR.1
  refine g_iload_n (pc := 0) hX dX0_addHead_0 rfl 1 rfl ?_
  refine g_iconst (pc := 1) (v := (-1)) hX dX0_addHead_1 (by decide) ?_
  refine g_icmp_eq (pc := 2) (tgt := 14) hX dX0_addHead_2 (by decide) (fun c2 => absurd c2 (nI_m1 (by omega))) (fun c2 => ?_)
  refine g_aload_n (pc := 5) hX dX0_addHead_5 rfl 0 rfl ?_
  refine g_get (pc := 6) (C := RX0) (T := TX0) (N := 2) (ci := 0) (v := .int (nI L.length)) hX inX0_addHead_X0 0 rfl rfl 1 (by decide) flX0_addHead_15 rfl rfl dX0_addHead_6 ?_
  refine g_bipush (pc := 9) (v := (nI 17)) hX dX0_addHead_9 (by decide) ?_
  refine g_icmpN_ne (pc := 11) (tgt := 15) hX (by omega) (by omega) dX0_addHead_11 (by decide) (fun c11 => ?_) (fun c11 => absurd c11 (by omega))
  refine g_aload_n (pc := 15) hX dX0_addHead_15 rfl 0 rfl ?_
  refine g_get (pc := 16) (C := RX0) (T := TX0) (N := 2) (ci := 0) (v := .ref q) hX inX0_addHead_X0 0 rfl rfl 0 (by decide) flX0_addHead_11 rfl rfl dX0_addHead_16 ?_
  refine g_iconst (pc := 19) (v := (nI 0)) hX dX0_addHead_19 (by decide) ?_
  refine g_aload_n (pc := 20) hX dX0_addHead_20 rfl 0 rfl ?_
  refine g_get (pc := 21) (C := RX0) (T := TX0) (N := 2) (ci := 0) (v := .ref q) hX inX0_addHead_X0 0 rfl rfl 0 (by decide) flX0_addHead_11 rfl rfl dX0_addHead_21 ?_
  refine g_iconst (pc := 24) (v := (nI 1)) hX dX0_addHead_24 (by decide) ?_
  refine g_aload_n (pc := 25) hX dX0_addHead_25 rfl 0 rfl ?_
  refine g_get (pc := 26) (C := RX0) (T := TX0) (N := 2) (ci := 0) (v := .int (nI L.length)) hX inX0_addHead_X0 0 rfl rfl 1 (by decide) flX0_addHead_15 rfl rfl dX0_addHead_26 ?_
  refine g_copy (pc := 29) (ws' := [(p, .inr (0, [.ref q, .int (nI L.length)])), (q, .inl (K.2.1, 17, .inl (va_cpy f f 0 1 L.length)))]) hX wdX0_addHead_ml23 wdX0_addHead_an wdX0_addHead_as wdX0_addHead_ai 1 1 rfl rfl (by omega) (by omega) (by omega) (by omega) (Nat.le_of_ble_eq_true rfl) (Nat.le_of_ble_eq_true rfl) rfl dX0_addHead_29 ?_
  refine g_aload_n (pc := 32) hX dX0_addHead_32 rfl 0 rfl ?_
  refine g_get (pc := 33) (C := RX0) (T := TX0) (N := 2) (ci := 0) (v := .ref q) hX inX0_addHead_X0 0 rfl rfl 0 (by decide) flX0_addHead_11 rfl rfl dX0_addHead_33 ?_
  refine g_iconst (pc := 36) (v := (nI 0)) hX dX0_addHead_36 (by decide) ?_
  refine g_iload_n (pc := 37) hX dX0_addHead_37 rfl 1 rfl ?_
  refine g_iast (pc := 38) (ws' := [(p, .inr (0, [.ref q, .int (nI L.length)])), (q, .inl (K.2.1, 17, .inl (upd (va_cpy f f 0 1 L.length) 0 (nI x))))]) hX 1 rfl (by omega) (by omega) rfl dX0_addHead_38 ?_
  refine g_aload_n (pc := 39) hX dX0_addHead_39 rfl 0 rfl ?_
  refine g_dup (pc := 40) hX dX0_addHead_40 rfl ?_
  refine g_get (pc := 41) (C := RX0) (T := TX0) (N := 2) (ci := 0) (v := .int (nI L.length)) hX inX0_addHead_X0 0 rfl rfl 1 (by decide) flX0_addHead_15 rfl rfl dX0_addHead_41 ?_
  refine g_iconst (pc := 44) (v := (nI 1)) hX dX0_addHead_44 (by decide) ?_
  refine g_iaddN (pc := 45) (r := L.length + 1) hX dX0_addHead_45 (by first | rfl | omega) ?_
  refine g_put (pc := 46) (C := RX0) (T := TX0) (N := 2) (ci := 0) (v := .int (nI (L.length + 1))) (ws' := [(p, .inr (0, [.ref q, .int (nI (L.length + 1))])), (q, .inl (K.2.1, 17, .inl (upd (va_cpy f f 0 1 L.length) 0 (nI x))))]) hX inX0_addHead_X0 tyX0 tyX0_ok nmX0 0 rfl rfl 1 (by decide) flX0_addHead_15 rfl rfl rfl rfl (Nat.le_of_ble_eq_true rfl) rfl dX0_addHead_46 ?_
  exact hret (u := upd (va_cpy f f 0 1 L.length) 0 (nI x)) dX0_addHead_49 (hR.head hx hl) rfl
abbrev rmX0_addTail : Room := { frames := 0, cells := 0, slots := 0, locals := 0 }
theorem flX0_addTail_15 : Cond.fieldLink RX0 15 "TwoTierCache$PageRow" "size" "I" ∈ wsX0_addTail := by decide +kernel
theorem inX0_addTail_X0 : ∀ w ∈ u_ws RX0 TX0 2, w ∈ wsX0_addTail := by decide +kernel
theorem flX0_addTail_11 : Cond.fieldLink RX0 11 "TwoTierCache$PageRow" "pages" "[I" ∈ wsX0_addTail := by decide +kernel
set_option maxHeartbeats 4000000 in
set_option maxRecDepth 100000 in
/-- addTail -/
theorem c_X0_addTail (l : Launch) (K : gT) (p q : Nat) (L : List Nat) (f : Nat → Int32) (hR : rowR f L) (x : Nat) (hx : x < 64) (hl : L.length < 17) : Cv l yX0_addTail wsX0_addTail rmX0_addTail K [.ref p, .int (nI x)] [(p, .inr (0, [.ref q, .int (nI L.length)])), (q, .inl (K.2.1, 17, .inl f))] (fun (u : Nat → Int32) => rowR u (L ++ [x])) (fun u => [(p, .inr (0, [.ref q, .int (nI ((L ++ [x]).length))])), (q, .inl (K.2.1, 17, .inl u))]) 0 0 := by
  refine m_v (cc := cX0_addTail) (own := RX0) (maxL := 2) (lv0 := [(0, .ref p), (1, .int (nI x))]) (by decide) rfl rfl (Nat.le_of_ble_eq_true rfl) rfl ?_
  intro X hX hin hret
  have hlen := hR.1
  refine g_iload_n (pc := 0) hX dX0_addTail_0 rfl 1 rfl ?_
  refine g_iconst (pc := 1) (v := (-1)) hX dX0_addTail_1 (by decide) ?_
  refine g_icmp_eq (pc := 2) (tgt := 14) hX dX0_addTail_2 (by decide) (fun c2 => absurd c2 (nI_m1 (by omega))) (fun c2 => ?_)
  refine g_aload_n (pc := 5) hX dX0_addTail_5 rfl 0 rfl ?_
  refine g_get (pc := 6) (C := RX0) (T := TX0) (N := 2) (ci := 0) (v := .int (nI L.length)) hX inX0_addTail_X0 0 rfl rfl 1 (by decide) flX0_addTail_15 rfl rfl dX0_addTail_6 ?_
  refine g_bipush (pc := 9) (v := (nI 17)) hX dX0_addTail_9 (by decide) ?_
  refine g_icmpN_ne (pc := 11) (tgt := 15) hX (by omega) (by omega) dX0_addTail_11 (by decide) (fun c11 => ?_) (fun c11 => absurd c11 (by omega))
  refine g_aload_n (pc := 15) hX dX0_addTail_15 rfl 0 rfl ?_
  refine g_get (pc := 16) (C := RX0) (T := TX0) (N := 2) (ci := 0) (v := .ref q) hX inX0_addTail_X0 0 rfl rfl 0 (by decide) flX0_addTail_11 rfl rfl dX0_addTail_16 ?_
  refine g_aload_n (pc := 19) hX dX0_addTail_19 rfl 0 rfl ?_
  refine g_get (pc := 20) (C := RX0) (T := TX0) (N := 2) (ci := 0) (v := .int (nI L.length)) hX inX0_addTail_X0 0 rfl rfl 1 (by decide) flX0_addTail_15 rfl rfl dX0_addTail_20 ?_
  refine g_iload_n (pc := 23) hX dX0_addTail_23 rfl 1 rfl ?_
  refine g_iast (pc := 24) (ws' := [(p, .inr (0, [.ref q, .int (nI L.length)])), (q, .inl (K.2.1, 17, .inl (upd f L.length (nI x))))]) hX 1 rfl (by omega) (by omega) rfl dX0_addTail_24 ?_
  refine g_aload_n (pc := 25) hX dX0_addTail_25 rfl 0 rfl ?_
  refine g_dup (pc := 26) hX dX0_addTail_26 rfl ?_
  refine g_get (pc := 27) (C := RX0) (T := TX0) (N := 2) (ci := 0) (v := .int (nI L.length)) hX inX0_addTail_X0 0 rfl rfl 1 (by decide) flX0_addTail_15 rfl rfl dX0_addTail_27 ?_
  refine g_iconst (pc := 30) (v := (nI 1)) hX dX0_addTail_30 (by decide) ?_
  refine g_iaddN (pc := 31) (r := L.length + 1) hX dX0_addTail_31 (by first | rfl | omega) ?_
  refine g_put (pc := 32) (C := RX0) (T := TX0) (N := 2) (ci := 0) (v := .int (nI (L.length + 1))) (ws' := [(p, .inr (0, [.ref q, .int (nI (L.length + 1))])), (q, .inl (K.2.1, 17, .inl (upd f L.length (nI x))))]) hX inX0_addTail_X0 tyX0 tyX0_ok nmX0 0 rfl rfl 1 (by decide) flX0_addTail_15 rfl rfl rfl rfl (Nat.le_of_ble_eq_true rfl) rfl dX0_addTail_32 ?_
  refine g_ws (ws' := [(p, .inr (0, [.ref q, .int (nI ((L ++ [x]).length))])), (q, .inl (K.2.1, 17, .inl (upd f L.length (nI x))))]) (by rw [List.length_append]; rfl) ?_
  exact hret (u := upd f L.length (nI x)) dX0_addTail_35 (hR.tail hx hl) rfl
abbrev rmX0_takeTail : Room := { frames := 0, cells := 0, slots := 0, locals := 0 }
theorem flX0_takeTail_15 : Cond.fieldLink RX0 15 "TwoTierCache$PageRow" "size" "I" ∈ wsX0_takeTail := by decide +kernel
theorem inX0_takeTail_X0 : ∀ w ∈ u_ws RX0 TX0 2, w ∈ wsX0_takeTail := by decide +kernel
theorem flX0_takeTail_11 : Cond.fieldLink RX0 11 "TwoTierCache$PageRow" "pages" "[I" ∈ wsX0_takeTail := by decide +kernel
set_option maxHeartbeats 4000000 in
set_option maxRecDepth 100000 in
/-- takeTail -/
theorem c_X0_takeTail (l : Launch) (K : gT) (p q : Nat) (L : List Nat) (f : Nat → Int32) (hR : rowR f L) : Ci l yX0_takeTail wsX0_takeTail rmX0_takeTail K [.ref p] [(p, .inr (0, [.ref q, .int (nI L.length)])), (q, .inl (K.2.1, 17, .inl f))] (fun (r : Int32) (u : Unit) => r = pI L.getLast?) (fun u => [(p, .inr (0, [.ref q, .int (nI L.dropLast.length)])), (q, .inl (K.2.1, 17, .inl f))]) 0 0 := by
  refine m_i (cc := cX0_takeTail) (own := RX0) (maxL := 1) (lv0 := [(0, .ref p)]) (by decide) rfl rfl (Nat.le_of_ble_eq_true rfl) rfl ?_
  intro X hX hin hret
  have hlen := hR.1
  refine g_aload_n (pc := 0) hX dX0_takeTail_0 rfl 0 rfl ?_
  refine g_get (pc := 1) (C := RX0) (T := TX0) (N := 2) (ci := 0) (v := .int (nI L.length)) hX inX0_takeTail_X0 0 rfl rfl 1 (by decide) flX0_takeTail_15 rfl rfl dX0_takeTail_1 ?_
  refine g_ifN_ne (pc := 4) (tgt := 9) hX (by omega) dX0_takeTail_4 (by decide) (fun c4 => ?_) (fun c4 => ?_)
  · refine g_aload_n (pc := 9) hX dX0_takeTail_9 rfl 0 rfl ?_
    refine g_dup (pc := 10) hX dX0_takeTail_10 rfl ?_
    refine g_get (pc := 11) (C := RX0) (T := TX0) (N := 2) (ci := 0) (v := .int (nI L.length)) hX inX0_takeTail_X0 0 rfl rfl 1 (by decide) flX0_takeTail_15 rfl rfl dX0_takeTail_11 ?_
    refine g_iconst (pc := 14) (v := (nI 1)) hX dX0_takeTail_14 (by decide) ?_
    refine g_isubN (pc := 15) (r := L.length - 1) hX dX0_takeTail_15 (by omega) ?_
    refine g_put (pc := 16) (C := RX0) (T := TX0) (N := 2) (ci := 0) (v := .int (nI (L.length - 1))) (ws' := [(p, .inr (0, [.ref q, .int (nI (L.length - 1))])), (q, .inl (K.2.1, 17, .inl f))]) hX inX0_takeTail_X0 tyX0 tyX0_ok nmX0 0 rfl rfl 1 (by decide) flX0_takeTail_15 rfl rfl rfl rfl (Nat.le_of_ble_eq_true rfl) rfl dX0_takeTail_16 ?_
    refine g_aload_n (pc := 19) hX dX0_takeTail_19 rfl 0 rfl ?_
    refine g_get (pc := 20) (C := RX0) (T := TX0) (N := 2) (ci := 0) (v := .ref q) hX inX0_takeTail_X0 0 rfl rfl 0 (by decide) flX0_takeTail_11 rfl rfl dX0_takeTail_20 ?_
    refine g_aload_n (pc := 23) hX dX0_takeTail_23 rfl 0 rfl ?_
    refine g_get (pc := 24) (C := RX0) (T := TX0) (N := 2) (ci := 0) (v := .int (nI (L.length - 1))) hX inX0_takeTail_X0 0 rfl rfl 1 (by decide) flX0_takeTail_15 rfl rfl dX0_takeTail_24 ?_
    refine g_iald (pc := 27) (v := (nI (L.getD (L.length - 1) 0))) hX 1 rfl (by omega) (by omega) (hR.2.2 _ (by omega)) dX0_takeTail_27 ?_
    refine g_ws (ws' := [(p, .inr (0, [.ref q, .int (nI L.dropLast.length)])), (q, .inl (K.2.1, 17, .inl f))]) (by rw [dl_len]) ?_
    exact hret (u := ()) dX0_takeTail_28 (by rw [gl_last (by omega)]; rfl) rfl
  · refine g_iconst (pc := 7) (v := (-1)) hX dX0_takeTail_7 (by decide) ?_
    have e0 : L = [] := List.length_eq_zero_iff.mp c4
    refine g_ws (ws' := [(p, .inr (0, [.ref q, .int (nI L.dropLast.length)])), (q, .inl (K.2.1, 17, .inl f))]) (by rw [e0]; rfl) ?_
    exact hret (u := ()) dX0_takeTail_8 (by rw [e0]; rfl) rfl
abbrev rmX0_remove : Room := { frames := 1, cells := 0, slots := 0, locals := 40 }
theorem flX0_remove_15 : Cond.fieldLink RX0 15 "TwoTierCache$PageRow" "size" "I" ∈ wsX0_remove := by decide +kernel
theorem inX0_remove_X0 : ∀ w ∈ u_ws RX0 TX0 2, w ∈ wsX0_remove := by decide +kernel
theorem flX0_remove_11 : Cond.fieldLink RX0 11 "TwoTierCache$PageRow" "pages" "[I" ∈ wsX0_remove := by decide +kernel
theorem wdX0_remove_ml23 : Cond.methodLink RX0 23 arraycopyName ∈ wsX0_remove := by decide +kernel
theorem wdX0_remove_an : Cond.native arraycopyName ∈ wsX0_remove := by decide +kernel
theorem wdX0_remove_as : Cond.static arraycopyName ∈ wsX0_remove := by decide +kernel
theorem wdX0_remove_ai : Cond.initialized "java/lang/System" ∈ wsX0_remove := by decide +kernel
set_option maxHeartbeats 4000000 in
set_option maxRecDepth 100000 in
/-- remove -/
theorem c_X0_remove (l : Launch) (K : gT) (p q : Nat) (L : List Nat) (f : Nat → Int32) (hR : rowR f L) (x : Nat) (hx : x < 64) : Ci l yX0_remove wsX0_remove rmX0_remove K [.ref p, .int (nI x)] [(p, .inr (0, [.ref q, .int (nI L.length)])), (q, .inl (K.2.1, 17, .inl f))] (fun (r : Int32) (u : Nat → Int32) => r = bI (decide (x ∈ L)) ∧ rowR u (rm L x)) (fun u => [(p, .inr (0, [.ref q, .int (nI ((rm L x).length))])), (q, .inl (K.2.1, 17, .inl u))]) 0 0 := by
  refine m_z (cc := cX0_remove) (own := RX0) (maxL := 3) (lv0 := [(0, .ref p), (1, .int (nI x))]) (by decide) rfl rfl (Nat.le_of_ble_eq_true rfl) rfl ?_
  intro X hX hin hret
  have hlen := hR.1
  refine g_aload_n (pc := 0) hX dX0_remove_0 rfl 0 rfl ?_
  refine g_iload_n (pc := 1) hX dX0_remove_1 rfl 1 rfl ?_
  refine g_ci (pc := 2) hX (wc := [(p, .inr (0, [.ref q, .int (nI L.length)])), (q, .inl (K.2.1, 17, .inl f))]) (wr := []) (Wd' := fun u => [(p, .inr (0, [.ref q, .int (nI L.length)])), (q, .inl (K.2.1, 17, .inl f))]) (g_goV (pc := 2) hX (As := [.int (nI x)]) (stk := []) (wc := [(p, .inr (0, [.ref q, .int (nI L.length)])), (q, .inl (K.2.1, 17, .inl f))]) (c_X0_placeOf l K p q L f hR x (by omega)) rfl rfl rfl gX0_remove_X0_placeOf nX0_placeOfV rfl 0 rfl ⟨(Nat.le_of_ble_eq_true rfl), (Nat.le_of_ble_eq_true rfl)⟩ [0, 1] rfl rfl rfl (Nat.le_of_ble_eq_true rfl) dX0_remove_2 ⟨(Nat.le_of_ble_eq_true rfl), (Nat.le_of_ble_eq_true rfl)⟩) [0, 1] [] [0, 1] rfl rfl rfl (by decide) rfl (fun _ => rfl) (fun r u h2 => ?_)
  obtain rfl := h2
  by_cases hm : x ∈ L
  · refine g_top (y := (nI (ix L x))) (plI_in hm) ?_
    have hix := ix_lt hm
    refine g_istore_n (pc := 5) (lv' := [(2, .int (nI (ix L x))), (0, .ref p), (1, .int (nI x))]) hX dX0_remove_5 rfl (by decide) rfl ?_
    refine g_iload_n (pc := 6) hX dX0_remove_6 rfl 0 rfl ?_
    refine g_iconst (pc := 7) (v := (-1)) hX dX0_remove_7 (by decide) ?_
    refine g_icmp_ne (pc := 8) (tgt := 13) hX dX0_remove_8 (by decide) (fun c8 => ?_) (fun c8 => absurd c8 (fun h => nI_m1 (by omega) h))
    refine g_aload_n (pc := 13) hX dX0_remove_13 rfl 1 rfl ?_
    refine g_dup (pc := 14) hX dX0_remove_14 rfl ?_
    refine g_get (pc := 15) (C := RX0) (T := TX0) (N := 2) (ci := 0) (v := .int (nI L.length)) hX inX0_remove_X0 0 rfl rfl 1 (by decide) flX0_remove_15 rfl rfl dX0_remove_15 ?_
    refine g_iconst (pc := 18) (v := (nI 1)) hX dX0_remove_18 (by decide) ?_
    refine g_isubN (pc := 19) (r := L.length - 1) hX dX0_remove_19 (by omega) ?_
    refine g_put (pc := 20) (C := RX0) (T := TX0) (N := 2) (ci := 0) (v := .int (nI (L.length - 1))) (ws' := [(p, .inr (0, [.ref q, .int (nI (L.length - 1))])), (q, .inl (K.2.1, 17, .inl f))]) hX inX0_remove_X0 tyX0 tyX0_ok nmX0 0 rfl rfl 1 (by decide) flX0_remove_15 rfl rfl rfl rfl (Nat.le_of_ble_eq_true rfl) rfl dX0_remove_20 ?_
    refine g_aload_n (pc := 23) hX dX0_remove_23 rfl 1 rfl ?_
    refine g_get (pc := 24) (C := RX0) (T := TX0) (N := 2) (ci := 0) (v := .ref q) hX inX0_remove_X0 0 rfl rfl 0 (by decide) flX0_remove_11 rfl rfl dX0_remove_24 ?_
    refine g_iload_n (pc := 27) hX dX0_remove_27 rfl 0 rfl ?_
    refine g_iconst (pc := 28) (v := (nI 1)) hX dX0_remove_28 (by decide) ?_
    refine g_iaddN (pc := 29) (r := (ix L x) + 1) hX dX0_remove_29 (by first | rfl | omega) ?_
    refine g_aload_n (pc := 30) hX dX0_remove_30 rfl 1 rfl ?_
    refine g_get (pc := 31) (C := RX0) (T := TX0) (N := 2) (ci := 0) (v := .ref q) hX inX0_remove_X0 0 rfl rfl 0 (by decide) flX0_remove_11 rfl rfl dX0_remove_31 ?_
    refine g_iload_n (pc := 34) hX dX0_remove_34 rfl 0 rfl ?_
    refine g_aload_n (pc := 35) hX dX0_remove_35 rfl 1 rfl ?_
    refine g_get (pc := 36) (C := RX0) (T := TX0) (N := 2) (ci := 0) (v := .int (nI (L.length - 1))) hX inX0_remove_X0 0 rfl rfl 1 (by decide) flX0_remove_15 rfl rfl dX0_remove_36 ?_
    refine g_iload_n (pc := 39) hX dX0_remove_39 rfl 0 rfl ?_
    refine g_isubN (pc := 40) (r := (L.length - 1) - (ix L x)) hX dX0_remove_40 (by omega) ?_
    refine g_copy (pc := 41) (ws' := [(p, .inr (0, [.ref q, .int (nI (L.length - 1))])), (q, .inl (K.2.1, 17, .inl (va_cpy f f ((ix L x) + 1) (ix L x) ((L.length - 1) - (ix L x)))))]) hX wdX0_remove_ml23 wdX0_remove_an wdX0_remove_as wdX0_remove_ai 1 1 rfl rfl (by omega) (by omega) (by omega) (by omega) (Nat.le_of_ble_eq_true rfl) (Nat.le_of_ble_eq_true rfl) rfl dX0_remove_41 ?_
    refine g_iconst (pc := 44) (v := (nI 1)) hX dX0_remove_44 (by decide) ?_
    have hrl := rm_len hm
    refine g_ws (ws' := [(p, .inr (0, [.ref q, .int (nI ((rm L x).length))])), (q, .inl (K.2.1, 17, .inl (va_cpy f f ((ix L x) + 1) (ix L x) ((L.length - 1) - (ix L x)))))]) (by rw [show L.length - 1 = (rm L x).length by omega]) ?_
    refine g_top (y := bI true) (by decide) ?_
    exact hret (v := true) (u := va_cpy f f (ix L x + 1) (ix L x) (L.length - 1 - ix L x)) dX0_remove_45 (⟨by rw [bI_mem hm]; rfl, hR.rm hm⟩) rfl
  · refine g_top (y := (-1)) (plI_out hm) ?_
    refine g_istore_n (pc := 5) (lv' := [(2, .int (-1)), (0, .ref p), (1, .int (nI x))]) hX dX0_remove_5 rfl (by decide) rfl ?_
    refine g_iload_n (pc := 6) hX dX0_remove_6 rfl 0 rfl ?_
    refine g_iconst (pc := 7) (v := (-1)) hX dX0_remove_7 (by decide) ?_
    refine g_icmp_ne (pc := 8) (tgt := 13) hX dX0_remove_8 (by decide) (fun c8 => ?_) (fun c8 => ?_)
    · exact absurd rfl c8
    · refine g_iconst (pc := 11) (v := (nI 0)) hX dX0_remove_11 (by decide) ?_
      refine g_ws (ws' := [(p, .inr (0, [.ref q, .int (nI ((rm L x).length))])), (q, .inl (K.2.1, 17, .inl f))]) (by rw [rm_none hm]) ?_
      refine g_top (y := bI false) (by decide) ?_
      exact hret (v := false) (u := f) dX0_remove_12 (⟨by rw [bI_nomem hm]; rfl, by rw [rm_none hm]; exact hR⟩) rfl
abbrev rmX0_takeHead : Room := { frames := 2, cells := 0, slots := 0, locals := 62 }
theorem nX0_atV : yX0_at.cls = RX0 ∧ yX0_at.cls ≠ "java/lang/invoke/MethodHandle" ∧ yX0_at.cls ≠ "java/lang/invoke/VarHandle" ∧ (parseMethodDescriptor yX0_at.desc).map (fun d => d.parameters.length) = some 1 := by decide +kernel
theorem nX0_removeV : yX0_remove.cls = RX0 ∧ yX0_remove.cls ≠ "java/lang/invoke/MethodHandle" ∧ yX0_remove.cls ≠ "java/lang/invoke/VarHandle" ∧ (parseMethodDescriptor yX0_remove.desc).map (fun d => d.parameters.length) = some 1 := by decide +kernel
set_option maxHeartbeats 4000000 in
set_option maxRecDepth 100000 in
/-- takeHead of a row a :: t -/
theorem c_X0_takeHead (l : Launch) (K : gT) (p q a : Nat) (t : List Nat) (f : Nat → Int32) (hR : rowR f (a :: t)) : Ci l yX0_takeHead wsX0_takeHead rmX0_takeHead K [.ref p] [(p, .inr (0, [.ref q, .int (nI ((a :: t).length))])), (q, .inl (K.2.1, 17, .inl f))] (fun (r : Int32) (u : Nat → Int32) => r = nI a ∧ rowR u t) (fun u => [(p, .inr (0, [.ref q, .int (nI t.length)])), (q, .inl (K.2.1, 17, .inl u))]) 0 0 := by
  refine m_i (cc := cX0_takeHead) (own := RX0) (maxL := 2) (lv0 := [(0, .ref p)]) (by decide) rfl rfl (Nat.le_of_ble_eq_true rfl) rfl ?_
  intro X hX hin hret
  have hlen := hR.1
  refine g_aload_n (pc := 0) hX dX0_takeHead_0 rfl 0 rfl ?_
  refine g_iconst (pc := 1) (v := (nI 0)) hX dX0_takeHead_1 (by decide) ?_
  refine g_ci (pc := 2) hX (wc := [(p, .inr (0, [.ref q, .int (nI ((a :: t).length))])), (q, .inl (K.2.1, 17, .inl f))]) (wr := []) (Wd' := fun u => [(p, .inr (0, [.ref q, .int (nI ((a :: t).length))])), (q, .inl (K.2.1, 17, .inl f))]) (g_goV (pc := 2) hX (As := [.int (nI 0)]) (stk := []) (wc := [(p, .inr (0, [.ref q, .int (nI ((a :: t).length))])), (q, .inl (K.2.1, 17, .inl f))]) (c_X0_at l K p q (a :: t) f hR (nI 0)) rfl rfl rfl gX0_takeHead_X0_at nX0_atV rfl 0 rfl ⟨(Nat.le_of_ble_eq_true rfl), (Nat.le_of_ble_eq_true rfl)⟩ [0, 1] rfl rfl rfl (Nat.le_of_ble_eq_true rfl) dX0_takeHead_2 ⟨(Nat.le_of_ble_eq_true rfl), (Nat.le_of_ble_eq_true rfl)⟩) [0, 1] [] [0, 1] rfl rfl rfl (by decide) rfl (fun _ => rfl) (fun r u h2 => ?_)
  obtain rfl := h2
  refine g_top (y := nI a) (by unfold atI; rw [if_neg (by decide), if_neg (nI_nle2 (a := 0) (by show 0 < t.length + 1; omega) (by show t.length + 1 < 2 ^ 31; have hlen2 : t.length + 1 ≤ 17 := hlen; omega))]; rfl) ?_
  have ha : a < 64 := hR.2.1 a List.mem_cons_self
  refine g_istore_n (pc := 5) (lv' := [(1, .int (nI a)), (0, .ref p)]) hX dX0_takeHead_5 rfl (by decide) rfl ?_
  refine g_aload_n (pc := 6) hX dX0_takeHead_6 rfl 1 rfl ?_
  refine g_iload_n (pc := 7) hX dX0_takeHead_7 rfl 0 rfl ?_
  refine g_ci (pc := 8) hX (wc := [(p, .inr (0, [.ref q, .int (nI ((a :: t).length))])), (q, .inl (K.2.1, 17, .inl f))]) (wr := []) (Wd' := fun u8 => [(p, .inr (0, [.ref q, .int (nI ((rm (a :: t) a).length))])), (q, .inl (K.2.1, 17, .inl u8))]) (g_goV (pc := 8) hX (As := [.int (nI a)]) (stk := []) (wc := [(p, .inr (0, [.ref q, .int (nI ((a :: t).length))])), (q, .inl (K.2.1, 17, .inl f))]) (c_X0_remove l K p q (a :: t) f hR a ha) rfl rfl rfl gX0_takeHead_X0_remove nX0_removeV rfl 0 rfl ⟨(Nat.le_of_ble_eq_true rfl), (Nat.le_of_ble_eq_true rfl)⟩ [0, 1] rfl rfl rfl (Nat.le_of_ble_eq_true rfl) dX0_takeHead_8 ⟨(Nat.le_of_ble_eq_true rfl), (Nat.le_of_ble_eq_true rfl)⟩) [0, 1] [] [0, 1] rfl rfl rfl (by decide) rfl (fun _ => rfl) (fun r u8 h8 => ?_)
  obtain ⟨rfl, hR8⟩ := h8
  refine g_pop (pc := 11) hX dX0_takeHead_11 rfl ?_
  refine g_iload_n (pc := 12) hX dX0_takeHead_12 rfl 0 rfl ?_
  refine g_ws (ws' := [(p, .inr (0, [.ref q, .int (nI t.length)])), (q, .inl (K.2.1, 17, .inl u8))]) (by rw [rm_head]) ?_
  rw [rm_head] at hR8
  exact hret (u := u8) dX0_takeHead_13 (⟨rfl, hR8⟩) rfl
theorem rowR.turn {f : Nat → Int32} {a : Nat} {t : List Nat} (h : rowR f (a :: t)) : rowR (upd (va_cpy f f 1 0 t.length) t.length (nI a)) (t ++ [a]) := by
  have h1 : rowR (va_cpy f f 1 0 t.length) t := by
    have h2 := h.rm (x := a) List.mem_cons_self
    have e : ix (a :: t) a = 0 := if_pos rfl
    rw [rm_head, e] at h2
    exact h2
  exact h1.tail (h.2.1 a List.mem_cons_self) (show t.length + 1 ≤ 17 from h.1)
abbrev rmX0_turn : Room := { frames := 1, cells := 0, slots := 0, locals := 40 }
theorem flX0_turn_15 : Cond.fieldLink RX0 15 "TwoTierCache$PageRow" "size" "I" ∈ wsX0_turn := by decide +kernel
theorem inX0_turn_X0 : ∀ w ∈ u_ws RX0 TX0 2, w ∈ wsX0_turn := by decide +kernel
theorem flX0_turn_11 : Cond.fieldLink RX0 11 "TwoTierCache$PageRow" "pages" "[I" ∈ wsX0_turn := by decide +kernel
theorem wdX0_turn_ml23 : Cond.methodLink RX0 23 arraycopyName ∈ wsX0_turn := by decide +kernel
theorem wdX0_turn_an : Cond.native arraycopyName ∈ wsX0_turn := by decide +kernel
theorem wdX0_turn_as : Cond.static arraycopyName ∈ wsX0_turn := by decide +kernel
theorem wdX0_turn_ai : Cond.initialized "java/lang/System" ∈ wsX0_turn := by decide +kernel
set_option maxHeartbeats 4000000 in
set_option maxRecDepth 100000 in
/-- turn of a row a :: t -/
theorem c_X0_turn (l : Launch) (K : gT) (p q a : Nat) (t : List Nat) (f : Nat → Int32) (hR : rowR f (a :: t)) : Cv l yX0_turn wsX0_turn rmX0_turn K [.ref p] ([(p, .inr (0, [.ref q, .int (nI ((a :: t).length))])), (q, .inl (K.2.1, 17, .inl f))]) (fun (u : Nat → Int32) => rowR u (t ++ [a])) (fun u => [(p, .inr (0, [.ref q, .int (nI ((t ++ [a]).length))])), (q, .inl (K.2.1, 17, .inl u))]) 0 0 := by
  refine m_v (cc := cX0_turn) (own := RX0) (maxL := 2) (lv0 := [(0, .ref p)]) (by decide) rfl rfl (Nat.le_of_ble_eq_true rfl) rfl ?_
  intro X hX hin hret
  refine g_ws (ws' := [(p, .inr (0, [.ref q, .int (nI (t.length + 1))])), (q, .inl (K.2.1, 17, .inl f))]) rfl ?_
  have hlen : t.length + 1 ≤ 17 := hR.1
  refine g_aload_n (pc := 0) hX dX0_turn_0 rfl 0 rfl ?_
  refine g_get (pc := 1) (C := RX0) (T := TX0) (N := 2) (ci := 0) (v := .int (nI (t.length + 1))) hX inX0_turn_X0 0 rfl rfl 1 (by decide) flX0_turn_15 rfl rfl dX0_turn_1 ?_
  refine g_ifN_ne (pc := 4) (tgt := 8) hX (by omega) dX0_turn_4 (by decide) (fun c4 => ?_) (fun c4 => absurd c4 (Nat.succ_ne_zero _))
  refine g_aload_n (pc := 8) hX dX0_turn_8 rfl 0 rfl ?_
  refine g_get (pc := 9) (C := RX0) (T := TX0) (N := 2) (ci := 0) (v := .ref q) hX inX0_turn_X0 0 rfl rfl 0 (by decide) flX0_turn_11 rfl rfl dX0_turn_9 ?_
  refine g_iconst (pc := 12) (v := (nI 0)) hX dX0_turn_12 (by decide) ?_
  refine g_iald (pc := 13) (v := (nI a)) hX 1 rfl (by omega) (by omega) (hR.2.2 0 (Nat.succ_pos _)) dX0_turn_13 ?_
  refine g_istore_n (pc := 14) (lv' := [(1, .int (nI a)), (0, .ref p)]) hX dX0_turn_14 rfl (by decide) rfl ?_
  refine g_aload_n (pc := 15) hX dX0_turn_15 rfl 1 rfl ?_
  refine g_get (pc := 16) (C := RX0) (T := TX0) (N := 2) (ci := 0) (v := .ref q) hX inX0_turn_X0 0 rfl rfl 0 (by decide) flX0_turn_11 rfl rfl dX0_turn_16 ?_
  refine g_iconst (pc := 19) (v := (nI 1)) hX dX0_turn_19 (by decide) ?_
  refine g_aload_n (pc := 20) hX dX0_turn_20 rfl 1 rfl ?_
  refine g_get (pc := 21) (C := RX0) (T := TX0) (N := 2) (ci := 0) (v := .ref q) hX inX0_turn_X0 0 rfl rfl 0 (by decide) flX0_turn_11 rfl rfl dX0_turn_21 ?_
  refine g_iconst (pc := 24) (v := (nI 0)) hX dX0_turn_24 (by decide) ?_
  refine g_aload_n (pc := 25) hX dX0_turn_25 rfl 1 rfl ?_
  refine g_get (pc := 26) (C := RX0) (T := TX0) (N := 2) (ci := 0) (v := .int (nI (t.length + 1))) hX inX0_turn_X0 0 rfl rfl 1 (by decide) flX0_turn_15 rfl rfl dX0_turn_26 ?_
  refine g_iconst (pc := 29) (v := (nI 1)) hX dX0_turn_29 (by decide) ?_
  refine g_isubN (pc := 30) (r := t.length) hX dX0_turn_30 (by omega) ?_
  refine g_copy (pc := 31) (ws' := [(p, .inr (0, [.ref q, .int (nI (t.length + 1))])), (q, .inl (K.2.1, 17, .inl (va_cpy f f 1 0 t.length)))]) hX wdX0_turn_ml23 wdX0_turn_an wdX0_turn_as wdX0_turn_ai 1 1 rfl rfl (by omega) (by omega) (by omega) (by omega) (Nat.le_of_ble_eq_true rfl) (Nat.le_of_ble_eq_true rfl) rfl dX0_turn_31 ?_
  refine g_aload_n (pc := 34) hX dX0_turn_34 rfl 1 rfl ?_
  refine g_get (pc := 35) (C := RX0) (T := TX0) (N := 2) (ci := 0) (v := .ref q) hX inX0_turn_X0 0 rfl rfl 0 (by decide) flX0_turn_11 rfl rfl dX0_turn_35 ?_
  refine g_aload_n (pc := 38) hX dX0_turn_38 rfl 1 rfl ?_
  refine g_get (pc := 39) (C := RX0) (T := TX0) (N := 2) (ci := 0) (v := .int (nI (t.length + 1))) hX inX0_turn_X0 0 rfl rfl 1 (by decide) flX0_turn_15 rfl rfl dX0_turn_39 ?_
  refine g_iconst (pc := 42) (v := (nI 1)) hX dX0_turn_42 (by decide) ?_
  refine g_isubN (pc := 43) (r := t.length) hX dX0_turn_43 (by omega) ?_
  refine g_iload_n (pc := 44) hX dX0_turn_44 rfl 0 rfl ?_
  refine g_iast (pc := 45) (ws' := [(p, .inr (0, [.ref q, .int (nI (t.length + 1))])), (q, .inl (K.2.1, 17, .inl (upd (va_cpy f f 1 0 t.length) t.length (nI a))))]) hX 1 rfl (by omega) (by omega) rfl dX0_turn_45 ?_
  refine g_ws (ws' := [(p, .inr (0, [.ref q, .int (nI ((t ++ [a]).length))])), (q, .inl (K.2.1, 17, .inl (upd (va_cpy f f 1 0 t.length) t.length (nI a))))]) (by rw [List.length_append]; rfl) ?_
  exact hret (u := upd (va_cpy f f 1 0 t.length) t.length (nI a)) dX0_turn_46 hR.turn rfl
