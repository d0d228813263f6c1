/-! TIER: its contracts (reads, dirtiness). tW: a tier h with its cells: ad 0 the rows, ad 1, 3, 5, 7 the four, ad 2, 4, 6, 8 their arrays -/
abbrev rw4 (a b c d : Nat) : Nat → Option Nat := va_up (va_up (va_up (va_up (fun _ => none) 0 (some a)) 1 (some b)) 2 (some c)) 3 (some d)
def adl (l : List Nat) : Nat → Nat := fun i => l.getD i 0
abbrev tW (K : gT) (h : Nat) (ad : Nat → Nat) (pol c g : Nat) (db mb : Int64) (hi mi dv : Int32) (a b d e : List Nat) (f0 f1 f2 f3 : Nat → Int32) : va_W := [(h, .inr (1, [.ref (ad 0), .int (nI pol), .int (nI c), .int (nI g), .long db, .long mb, .int hi, .int mi, .int dv])), (ad 0, .inl (K.2.2.2, 4, .inr (.inr (.inr (.inr (rw4 (ad 1) (ad 3) (ad 5) (ad 7))))))), (ad 1, .inr (0, [.ref (ad 2), .int (nI a.length)])), (ad 2, .inl (K.2.1, 17, .inl f0)), (ad 3, .inr (0, [.ref (ad 4), .int (nI b.length)])), (ad 4, .inl (K.2.1, 17, .inl f1)), (ad 5, .inr (0, [.ref (ad 6), .int (nI d.length)])), (ad 6, .inl (K.2.1, 17, .inl f2)), (ad 7, .inr (0, [.ref (ad 8), .int (nI e.length)])), (ad 8, .inl (K.2.1, 17, .inl f3))]
abbrev rmX1_init : Room := { frames := 2, cells := 9, slots := 80, locals := 60 }
theorem wdX1_init_ml3 : Cond.methodLink RX1 3 objectInit ∈ wsX1_init := by decide +kernel
theorem wdX1_init_oi : Cond.instanceMethod objectInit ∈ wsX1_init := by decide +kernel
theorem wdX1_init_oc : Cond.code objectInit ⟨#[0xb1]⟩ 1 none ∈ wsX1_init := by decide +kernel
theorem wdX1_init_cl11 : Cond.classLink RX1 11 RX0 ∈ wsX1_init := by decide +kernel
theorem flX1_init_13 : Cond.fieldLink RX1 13 "TwoTierCache$Tier" "rows" "[LTwoTierCache$PageRow;" ∈ wsX1_init := by decide +kernel
theorem inX1_init_X1 : ∀ w ∈ u_ws RX1 TX1 9, w ∈ wsX1_init := by decide +kernel
theorem wdX1_init_inX0 : Cond.instantiable RX0 2 ∈ wsX1_init := by decide +kernel
theorem wdX1_init_iiX0 : Cond.initialized RX0 ∈ wsX1_init := by decide +kernel
theorem inX1_init_X0 : ∀ w ∈ u_ws RX0 TX0 2, w ∈ wsX1_init := by decide +kernel
theorem nX0_initS : yX0_init.cls ≠ "java/lang/invoke/MethodHandle" ∧ yX0_init.cls ≠ "java/lang/invoke/VarHandle" ∧ (parseMethodDescriptor yX0_init.desc).map (fun d => d.parameters.length) = some 0 := by decide +kernel
theorem wdX1_init_iyX0_init : Cond.initialized yX0_init.cls ∈ wsX1_init := by decide +kernel
theorem wdX1_init_imX0_init : Cond.instanceMethod yX0_init ∈ wsX1_init := by decide +kernel
theorem flX1_init_18 : Cond.fieldLink RX1 18 "TwoTierCache$Tier" "policy" "I" ∈ wsX1_init := by decide +kernel
theorem flX1_init_22 : Cond.fieldLink RX1 22 "TwoTierCache$Tier" "capacity" "I" ∈ wsX1_init := by decide +kernel
set_option maxHeartbeats 4000000 in
set_option maxRecDepth 100000 in
/-- Tier(policy, capacity): four empty rows -/
theorem c_X1_init (l : Launch) (K : gT) (h pol c : Nat) : Cv l yX1_init wsX1_init rmX1_init K [.ref h, .int (nI pol), .int (nI c)] [(h, .inr (1, [.null, .int 0, .int 0, .int 0, .long 0, .long 0, .int 0, .int 0, .int 0]))] (fun (u : Nat → Nat) => True) (fun u => tW K h u pol c 0 0 0 0 0 0 ([]) ([]) ([]) ([]) (fun _ => 0) (fun _ => 0) (fun _ => 0) (fun _ => 0)) 9 80 := by
  refine m_v (cc := cX1_init) (own := RX1) (maxL := 4) (lv0 := [(0, .ref h), (1, .int (nI pol)), (2, .int (nI c))]) (by decide) rfl rfl (Nat.le_of_ble_eq_true rfl) rfl ?_
  intro X hX hin hret
  refine g_aload_n (pc := 0) hX dX1_init_0 rfl 0 rfl ?_
  refine g_objInit (pc := 1) hX wdX1_init_ml3 wdX1_init_oi wdX1_init_oc (Nat.le_of_ble_eq_true rfl) (Nat.le_of_ble_eq_true rfl) dX1_init_1 ?_
  refine g_aload_n (pc := 4) hX dX1_init_4 rfl 0 rfl ?_
  refine g_iconst (pc := 5) (v := (nI 4)) hX dX1_init_5 (by decide) ?_
  refine g_newQ (pc := 6) hX wdX1_init_cl11 (by decide) (by decide) (Nat.le_of_ble_eq_true rfl) (Nat.le_of_ble_eq_true rfl) dX1_init_6 (fun q6 => ?_)
  refine g_putF (pc := 9) (C := RX1) (T := TX1) (N := 9) (ci := 1) (v := .ref q6) (ws' := [(h, .inr (1, [.ref q6, .int 0, .int 0, .int 0, .long 0, .long 0, .int 0, .int 0, .int 0])), (q6, .inl (K.2.2.2, 4, .inr (.inr (.inr (.inr (fun _ => none))))))]) hX (hin rfl) inX1_init_X1 tyX1 tyX1_ok nmX1 0 rfl rfl 0 (by decide) flX1_init_13 rfl rfl rfl rfl rfl (Nat.le_of_ble_eq_true rfl) rfl dX1_init_9 ?_
  refine g_iconst (pc := 12) (v := (nI 0)) hX dX1_init_12 (by decide) ?_
  refine g_istore_n (pc := 13) (lv' := [(3, .int (nI 0)), (0, .ref h), (1, .int (nI pol)), (2, .int (nI c))]) hX dX1_init_13 rfl (by decide) rfl ?_
  refine g_iload_n (pc := 14) hX dX1_init_14 rfl 0 rfl ?_
  refine g_iconst (pc := 15) (v := (nI 4)) hX dX1_init_15 (by decide) ?_
  refine g_icmpN_ge (pc := 16) (tgt := 38) hX (by omega) (by omega) dX1_init_16 (by decide) (fun c16 => absurd c16 (by omega)) (fun c16 => ?_)
  refine g_aload_n (pc := 19) hX dX1_init_19 rfl 1 rfl ?_
  refine g_get (pc := 20) (C := RX1) (T := TX1) (N := 9) (ci := 1) (v := .ref q6) hX inX1_init_X1 0 rfl rfl 0 (by decide) flX1_init_13 rfl rfl dX1_init_20 ?_
  refine g_iload_n (pc := 23) hX dX1_init_23 rfl 0 rfl ?_
  refine g_new (pc := 24) (C := RX0) (T := TX0) (N := 2) (ci := 0) (fs := [.null, .int 0]) hX inX1_init_X0 tyX0 tyX0_ok wdX1_init_cl11 wdX1_init_inX0 wdX1_init_iiX0 rfl (fun j hj => by rcases (show j = 0 ∨ j = 1 by omega) with rfl | rfl <;> rfl) (Nat.le_of_ble_eq_true rfl) (Nat.le_of_ble_eq_true rfl) dX1_init_24 (fun q24 => ?_)
  refine g_dup (pc := 27) hX dX1_init_27 rfl ?_
  refine g_cv (pc := 28) hX (wc := [(q24, .inr (0, [.null, .int 0]))]) (wr := [(h, .inr (1, [.ref q6, .int 0, .int 0, .int 0, .long 0, .long 0, .int 0, .int 0, .int 0])), (q6, .inl (K.2.2.2, 4, .inr (.inr (.inr (.inr (fun _ => none))))))]) (Wd' := fun u28_0 => [(h, .inr (1, [.ref q6, .int 0, .int 0, .int 0, .long 0, .long 0, .int 0, .int 0, .int 0])), (q6, .inl (K.2.2.2, 4, .inr (.inr (.inr (.inr (fun _ => none)))))), (q24, .inr (0, [.ref u28_0, .int 0])), (u28_0, .inl (K.2.1, 17, .inl (fun _ => 0)))]) (g_goIN (pc := 28) hX (As := []) (stk := [.ref q24, .int (nI 0), .ref q6]) (wc := [(q24, .inr (0, [.null, .int 0]))]) (c_X0_init l K q24) rfl rfl rfl gX1_init_X0_init_n17 wdX1_init_iyX0_init rfl rfl rfl wdX1_init_imX0_init rfl nX0_initS ⟨(Nat.le_of_ble_eq_true rfl), (Nat.le_of_ble_eq_true rfl)⟩ [2] rfl rfl rfl (Nat.le_of_ble_eq_true rfl) dX1_init_28 ⟨(Nat.le_of_ble_eq_true rfl), (Nat.le_of_ble_eq_true rfl)⟩) [2] [0, 1] [0, 1, 2, 3] rfl rfl rfl (by decide) rfl (fun _ => rfl) (fun u28_0 h28 => ?_)
  refine g_astq (pc := 31) (ws' := [(h, .inr (1, [.ref q6, .int 0, .int 0, .int 0, .long 0, .long 0, .int 0, .int 0, .int 0])), (q6, .inl (K.2.2.2, 4, .inr (.inr (.inr (.inr (va_up (fun _ => none) 0 (some q24))))))), (q24, .inr (0, [.ref u28_0, .int 0])), (u28_0, .inl (K.2.1, 17, .inl (fun _ => 0)))]) hX 1 2 rfl rfl (by omega) (by omega) rfl dX1_init_31 ?_
  refine g_iinc (pc := 32) (z := 0) (v := (nI 1)) (lv' := [(3, .int (nI 1)), (0, .ref h), (1, .int (nI pol)), (2, .int (nI c))]) hX dX1_init_32 rfl (by first | exact nI_add _ _ | rfl) (by decide) rfl ?_
  refine g_goto (pc := 35) (tgt := 14) hX dX1_init_35 (by decide) ?_
  refine g_iload_n (pc := 14) hX dX1_init_14 rfl 0 rfl ?_
  refine g_iconst (pc := 15) (v := (nI 4)) hX dX1_init_15 (by decide) ?_
  refine g_icmpN_ge (pc := 16) (tgt := 38) hX (by omega) (by omega) dX1_init_16 (by decide) (fun c16_1 => absurd c16_1 (by omega)) (fun c16_1 => ?_)
  refine g_aload_n (pc := 19) hX dX1_init_19 rfl 1 rfl ?_
  refine g_get (pc := 20) (C := RX1) (T := TX1) (N := 9) (ci := 1) (v := .ref q6) hX inX1_init_X1 0 rfl rfl 0 (by decide) flX1_init_13 rfl rfl dX1_init_20 ?_
  refine g_iload_n (pc := 23) hX dX1_init_23 rfl 0 rfl ?_
  refine g_new (pc := 24) (C := RX0) (T := TX0) (N := 2) (ci := 0) (fs := [.null, .int 0]) hX inX1_init_X0 tyX0 tyX0_ok wdX1_init_cl11 wdX1_init_inX0 wdX1_init_iiX0 rfl (fun j hj => by rcases (show j = 0 ∨ j = 1 by omega) with rfl | rfl <;> rfl) (Nat.le_of_ble_eq_true rfl) (Nat.le_of_ble_eq_true rfl) dX1_init_24 (fun q24_1 => ?_)
  refine g_dup (pc := 27) hX dX1_init_27 rfl ?_
  refine g_cv (pc := 28) hX (wc := [(q24_1, .inr (0, [.null, .int 0]))]) (wr := [(h, .inr (1, [.ref q6, .int 0, .int 0, .int 0, .long 0, .long 0, .int 0, .int 0, .int 0])), (q6, .inl (K.2.2.2, 4, .inr (.inr (.inr (.inr (va_up (fun _ => none) 0 (some q24))))))), (q24, .inr (0, [.ref u28_0, .int 0])), (u28_0, .inl (K.2.1, 17, .inl (fun _ => 0)))]) (Wd' := fun u28_1 => [(h, .inr (1, [.ref q6, .int 0, .int 0, .int 0, .long 0, .long 0, .int 0, .int 0, .int 0])), (q6, .inl (K.2.2.2, 4, .inr (.inr (.inr (.inr (va_up (fun _ => none) 0 (some q24))))))), (q24, .inr (0, [.ref u28_0, .int 0])), (u28_0, .inl (K.2.1, 17, .inl (fun _ => 0))), (q24_1, .inr (0, [.ref u28_1, .int 0])), (u28_1, .inl (K.2.1, 17, .inl (fun _ => 0)))]) (g_goIN (pc := 28) hX (As := []) (stk := [.ref q24_1, .int (nI 1), .ref q6]) (wc := [(q24_1, .inr (0, [.null, .int 0]))]) (c_X0_init l K q24_1) rfl rfl rfl gX1_init_X0_init_n17 wdX1_init_iyX0_init rfl rfl rfl wdX1_init_imX0_init rfl nX0_initS ⟨(Nat.le_of_ble_eq_true rfl), (Nat.le_of_ble_eq_true rfl)⟩ [4] rfl rfl rfl (Nat.le_of_ble_eq_true rfl) dX1_init_28 ⟨(Nat.le_of_ble_eq_true rfl), (Nat.le_of_ble_eq_true rfl)⟩) [4] [0, 1, 2, 3] [0, 1, 2, 3, 4, 5] rfl rfl rfl (by decide) rfl (fun _ => rfl) (fun u28_1 h28 => ?_)
  refine g_astq (pc := 31) (ws' := [(h, .inr (1, [.ref q6, .int 0, .int 0, .int 0, .long 0, .long 0, .int 0, .int 0, .int 0])), (q6, .inl (K.2.2.2, 4, .inr (.inr (.inr (.inr (va_up (va_up (fun _ => none) 0 (some q24)) 1 (some q24_1))))))), (q24, .inr (0, [.ref u28_0, .int 0])), (u28_0, .inl (K.2.1, 17, .inl (fun _ => 0))), (q24_1, .inr (0, [.ref u28_1, .int 0])), (u28_1, .inl (K.2.1, 17, .inl (fun _ => 0)))]) hX 1 4 rfl rfl (by omega) (by omega) rfl dX1_init_31 ?_
  refine g_iinc (pc := 32) (z := 0) (v := (nI 2)) (lv' := [(3, .int (nI 2)), (0, .ref h), (1, .int (nI pol)), (2, .int (nI c))]) hX dX1_init_32 rfl (by first | exact nI_add _ _ | rfl) (by decide) rfl ?_
  refine g_goto (pc := 35) (tgt := 14) hX dX1_init_35 (by decide) ?_
  refine g_iload_n (pc := 14) hX dX1_init_14 rfl 0 rfl ?_
  refine g_iconst (pc := 15) (v := (nI 4)) hX dX1_init_15 (by decide) ?_
  refine g_icmpN_ge (pc := 16) (tgt := 38) hX (by omega) (by omega) dX1_init_16 (by decide) (fun c16_2 => absurd c16_2 (by omega)) (fun c16_2 => ?_)
  refine g_aload_n (pc := 19) hX dX1_init_19 rfl 1 rfl ?_
  refine g_get (pc := 20) (C := RX1) (T := TX1) (N := 9) (ci := 1) (v := .ref q6) hX inX1_init_X1 0 rfl rfl 0 (by decide) flX1_init_13 rfl rfl dX1_init_20 ?_
  refine g_iload_n (pc := 23) hX dX1_init_23 rfl 0 rfl ?_
  refine g_new (pc := 24) (C := RX0) (T := TX0) (N := 2) (ci := 0) (fs := [.null, .int 0]) hX inX1_init_X0 tyX0 tyX0_ok wdX1_init_cl11 wdX1_init_inX0 wdX1_init_iiX0 rfl (fun j hj => by rcases (show j = 0 ∨ j = 1 by omega) with rfl | rfl <;> rfl) (Nat.le_of_ble_eq_true rfl) (Nat.le_of_ble_eq_true rfl) dX1_init_24 (fun q24_2 => ?_)
  refine g_dup (pc := 27) hX dX1_init_27 rfl ?_
  refine g_cv (pc := 28) hX (wc := [(q24_2, .inr (0, [.null, .int 0]))]) (wr := [(h, .inr (1, [.ref q6, .int 0, .int 0, .int 0, .long 0, .long 0, .int 0, .int 0, .int 0])), (q6, .inl (K.2.2.2, 4, .inr (.inr (.inr (.inr (va_up (va_up (fun _ => none) 0 (some q24)) 1 (some q24_1))))))), (q24, .inr (0, [.ref u28_0, .int 0])), (u28_0, .inl (K.2.1, 17, .inl (fun _ => 0))), (q24_1, .inr (0, [.ref u28_1, .int 0])), (u28_1, .inl (K.2.1, 17, .inl (fun _ => 0)))]) (Wd' := fun u28_2 => [(h, .inr (1, [.ref q6, .int 0, .int 0, .int 0, .long 0, .long 0, .int 0, .int 0, .int 0])), (q6, .inl (K.2.2.2, 4, .inr (.inr (.inr (.inr (va_up (va_up (fun _ => none) 0 (some q24)) 1 (some q24_1))))))), (q24, .inr (0, [.ref u28_0, .int 0])), (u28_0, .inl (K.2.1, 17, .inl (fun _ => 0))), (q24_1, .inr (0, [.ref u28_1, .int 0])), (u28_1, .inl (K.2.1, 17, .inl (fun _ => 0))), (q24_2, .inr (0, [.ref u28_2, .int 0])), (u28_2, .inl (K.2.1, 17, .inl (fun _ => 0)))]) (g_goIN (pc := 28) hX (As := []) (stk := [.ref q24_2, .int (nI 2), .ref q6]) (wc := [(q24_2, .inr (0, [.null, .int 0]))]) (c_X0_init l K q24_2) rfl rfl rfl gX1_init_X0_init_n17 wdX1_init_iyX0_init rfl rfl rfl wdX1_init_imX0_init rfl nX0_initS ⟨(Nat.le_of_ble_eq_true rfl), (Nat.le_of_ble_eq_true rfl)⟩ [6] rfl rfl rfl (Nat.le_of_ble_eq_true rfl) dX1_init_28 ⟨(Nat.le_of_ble_eq_true rfl), (Nat.le_of_ble_eq_true rfl)⟩) [6] [0, 1, 2, 3, 4, 5] [0, 1, 2, 3, 4, 5, 6, 7] rfl rfl rfl (by decide) rfl (fun _ => rfl) (fun u28_2 h28 => ?_)
  refine g_astq (pc := 31) (ws' := [(h, .inr (1, [.ref q6, .int 0, .int 0, .int 0, .long 0, .long 0, .int 0, .int 0, .int 0])), (q6, .inl (K.2.2.2, 4, .inr (.inr (.inr (.inr (va_up (va_up (va_up (fun _ => none) 0 (some q24)) 1 (some q24_1)) 2 (some q24_2))))))), (q24, .inr (0, [.ref u28_0, .int 0])), (u28_0, .inl (K.2.1, 17, .inl (fun _ => 0))), (q24_1, .inr (0, [.ref u28_1, .int 0])), (u28_1, .inl (K.2.1, 17, .inl (fun _ => 0))), (q24_2, .inr (0, [.ref u28_2, .int 0])), (u28_2, .inl (K.2.1, 17, .inl (fun _ => 0)))]) hX 1 6 rfl rfl (by omega) (by omega) rfl dX1_init_31 ?_
  refine g_iinc (pc := 32) (z := 0) (v := (nI 3)) (lv' := [(3, .int (nI 3)), (0, .ref h), (1, .int (nI pol)), (2, .int (nI c))]) hX dX1_init_32 rfl (by first | exact nI_add _ _ | rfl) (by decide) rfl ?_
  refine g_goto (pc := 35) (tgt := 14) hX dX1_init_35 (by decide) ?_
  refine g_iload_n (pc := 14) hX dX1_init_14 rfl 0 rfl ?_
  refine g_iconst (pc := 15) (v := (nI 4)) hX dX1_init_15 (by decide) ?_
  refine g_icmpN_ge (pc := 16) (tgt := 38) hX (by omega) (by omega) dX1_init_16 (by decide) (fun c16_3 => absurd c16_3 (by omega)) (fun c16_3 => ?_)
  refine g_aload_n (pc := 19) hX dX1_init_19 rfl 1 rfl ?_
  refine g_get (pc := 20) (C := RX1) (T := TX1) (N := 9) (ci := 1) (v := .ref q6) hX inX1_init_X1 0 rfl rfl 0 (by decide) flX1_init_13 rfl rfl dX1_init_20 ?_
  refine g_iload_n (pc := 23) hX dX1_init_23 rfl 0 rfl ?_
  refine g_new (pc := 24) (C := RX0) (T := TX0) (N := 2) (ci := 0) (fs := [.null, .int 0]) hX inX1_init_X0 tyX0 tyX0_ok wdX1_init_cl11 wdX1_init_inX0 wdX1_init_iiX0 rfl (fun j hj => by rcases (show j = 0 ∨ j = 1 by omega) with rfl | rfl <;> rfl) (Nat.le_of_ble_eq_true rfl) (Nat.le_of_ble_eq_true rfl) dX1_init_24 (fun q24_3 => ?_)
  refine g_dup (pc := 27) hX dX1_init_27 rfl ?_
  refine g_cv (pc := 28) hX (wc := [(q24_3, .inr (0, [.null, .int 0]))]) (wr := [(h, .inr (1, [.ref q6, .int 0, .int 0, .int 0, .long 0, .long 0, .int 0, .int 0, .int 0])), (q6, .inl (K.2.2.2, 4, .inr (.inr (.inr (.inr (va_up (va_up (va_up (fun _ => none) 0 (some q24)) 1 (some q24_1)) 2 (some q24_2))))))), (q24, .inr (0, [.ref u28_0, .int 0])), (u28_0, .inl (K.2.1, 17, .inl (fun _ => 0))), (q24_1, .inr (0, [.ref u28_1, .int 0])), (u28_1, .inl (K.2.1, 17, .inl (fun _ => 0))), (q24_2, .inr (0, [.ref u28_2, .int 0])), (u28_2, .inl (K.2.1, 17, .inl (fun _ => 0)))]) (Wd' := fun u28_3 => [(h, .inr (1, [.ref q6, .int 0, .int 0, .int 0, .long 0, .long 0, .int 0, .int 0, .int 0])), (q6, .inl (K.2.2.2, 4, .inr (.inr (.inr (.inr (va_up (va_up (va_up (fun _ => none) 0 (some q24)) 1 (some q24_1)) 2 (some q24_2))))))), (q24, .inr (0, [.ref u28_0, .int 0])), (u28_0, .inl (K.2.1, 17, .inl (fun _ => 0))), (q24_1, .inr (0, [.ref u28_1, .int 0])), (u28_1, .inl (K.2.1, 17, .inl (fun _ => 0))), (q24_2, .inr (0, [.ref u28_2, .int 0])), (u28_2, .inl (K.2.1, 17, .inl (fun _ => 0))), (q24_3, .inr (0, [.ref u28_3, .int 0])), (u28_3, .inl (K.2.1, 17, .inl (fun _ => 0)))]) (g_goIN (pc := 28) hX (As := []) (stk := [.ref q24_3, .int (nI 3), .ref q6]) (wc := [(q24_3, .inr (0, [.null, .int 0]))]) (c_X0_init l K q24_3) rfl rfl rfl gX1_init_X0_init_n17 wdX1_init_iyX0_init rfl rfl rfl wdX1_init_imX0_init rfl nX0_initS ⟨(Nat.le_of_ble_eq_true rfl), (Nat.le_of_ble_eq_true rfl)⟩ [8] rfl rfl rfl (Nat.le_of_ble_eq_true rfl) dX1_init_28 ⟨(Nat.le_of_ble_eq_true rfl), (Nat.le_of_ble_eq_true rfl)⟩) [8] [0, 1, 2, 3, 4, 5, 6, 7] [0, 1, 2, 3, 4, 5, 6, 7, 8, 9] rfl rfl rfl (by decide) rfl (fun _ => rfl) (fun u28_3 h28 => ?_)
  refine g_astq (pc := 31) (ws' := [(h, .inr (1, [.ref q6, .int 0, .int 0, .int 0, .long 0, .long 0, .int 0, .int 0, .int 0])), (q6, .inl (K.2.2.2, 4, .inr (.inr (.inr (.inr (va_up (va_up (va_up (va_up (fun _ => none) 0 (some q24)) 1 (some q24_1)) 2 (some q24_2)) 3 (some q24_3))))))), (q24, .inr (0, [.ref u28_0, .int 0])), (u28_0, .inl (K.2.1, 17, .inl (fun _ => 0))), (q24_1, .inr (0, [.ref u28_1, .int 0])), (u28_1, .inl (K.2.1, 17, .inl (fun _ => 0))), (q24_2, .inr (0, [.ref u28_2, .int 0])), (u28_2, .inl (K.2.1, 17, .inl (fun _ => 0))), (q24_3, .inr (0, [.ref u28_3, .int 0])), (u28_3, .inl (K.2.1, 17, .inl (fun _ => 0)))]) hX 1 8 rfl rfl (by omega) (by omega) rfl dX1_init_31 ?_
  refine g_iinc (pc := 32) (z := 0) (v := (nI 4)) (lv' := [(3, .int (nI 4)), (0, .ref h), (1, .int (nI pol)), (2, .int (nI c))]) hX dX1_init_32 rfl (by first | exact nI_add _ _ | rfl) (by decide) rfl ?_
  refine g_goto (pc := 35) (tgt := 14) hX dX1_init_35 (by decide) ?_
  refine g_iload_n (pc := 14) hX dX1_init_14 rfl 0 rfl ?_
  refine g_iconst (pc := 15) (v := (nI 4)) hX dX1_init_15 (by decide) ?_
  refine g_icmpN_ge (pc := 16) (tgt := 38) hX (by omega) (by omega) dX1_init_16 (by decide) (fun c16_4 => ?_) (fun c16_4 => absurd c16_4 (by omega))
  refine g_aload_n (pc := 38) hX dX1_init_38 rfl 1 rfl ?_
  refine g_iload_n (pc := 39) hX dX1_init_39 rfl 2 rfl ?_
  refine g_put (pc := 40) (C := RX1) (T := TX1) (N := 9) (ci := 1) (v := .int (nI pol)) (ws' := [(h, .inr (1, [.ref q6, .int (nI pol), .int 0, .int 0, .long 0, .long 0, .int 0, .int 0, .int 0])), (q6, .inl (K.2.2.2, 4, .inr (.inr (.inr (.inr (va_up (va_up (va_up (va_up (fun _ => none) 0 (some q24)) 1 (some q24_1)) 2 (some q24_2)) 3 (some q24_3))))))), (q24, .inr (0, [.ref u28_0, .int 0])), (u28_0, .inl (K.2.1, 17, .inl (fun _ => 0))), (q24_1, .inr (0, [.ref u28_1, .int 0])), (u28_1, .inl (K.2.1, 17, .inl (fun _ => 0))), (q24_2, .inr (0, [.ref u28_2, .int 0])), (u28_2, .inl (K.2.1, 17, .inl (fun _ => 0))), (q24_3, .inr (0, [.ref u28_3, .int 0])), (u28_3, .inl (K.2.1, 17, .inl (fun _ => 0)))]) hX inX1_init_X1 tyX1 tyX1_ok nmX1 0 rfl rfl 1 (by decide) flX1_init_18 rfl rfl rfl rfl (Nat.le_of_ble_eq_true rfl) rfl dX1_init_40 ?_
  refine g_aload_n (pc := 43) hX dX1_init_43 rfl 1 rfl ?_
  refine g_iload_n (pc := 44) hX dX1_init_44 rfl 3 rfl ?_
  refine g_put (pc := 45) (C := RX1) (T := TX1) (N := 9) (ci := 1) (v := .int (nI c)) (ws' := [(h, .inr (1, [.ref q6, .int (nI pol), .int (nI c), .int 0, .long 0, .long 0, .int 0, .int 0, .int 0])), (q6, .inl (K.2.2.2, 4, .inr (.inr (.inr (.inr (va_up (va_up (va_up (va_up (fun _ => none) 0 (some q24)) 1 (some q24_1)) 2 (some q24_2)) 3 (some q24_3))))))), (q24, .inr (0, [.ref u28_0, .int 0])), (u28_0, .inl (K.2.1, 17, .inl (fun _ => 0))), (q24_1, .inr (0, [.ref u28_1, .int 0])), (u28_1, .inl (K.2.1, 17, .inl (fun _ => 0))), (q24_2, .inr (0, [.ref u28_2, .int 0])), (u28_2, .inl (K.2.1, 17, .inl (fun _ => 0))), (q24_3, .inr (0, [.ref u28_3, .int 0])), (u28_3, .inl (K.2.1, 17, .inl (fun _ => 0)))]) hX inX1_init_X1 tyX1 tyX1_ok nmX1 0 rfl rfl 2 (by decide) flX1_init_22 rfl rfl rfl rfl (Nat.le_of_ble_eq_true rfl) rfl dX1_init_45 ?_
  exact hret (u := adl [q6, q24, u28_0, q24_1, u28_1, q24_2, u28_2, q24_3, u28_3]) dX1_init_48 trivial rfl
abbrev rmX1_restart : Room := { frames := 1, cells := 0, slots := 0, locals := 20 }
theorem flX1_restart_13 : Cond.fieldLink RX1 13 "TwoTierCache$Tier" "rows" "[LTwoTierCache$PageRow;" ∈ wsX1_restart := by decide +kernel
theorem inX1_restart_X1 : ∀ w ∈ u_ws RX1 TX1 9, w ∈ wsX1_restart := by decide +kernel
theorem nX0_clearV : yX0_clear.cls = RX0 ∧ yX0_clear.cls ≠ "java/lang/invoke/MethodHandle" ∧ yX0_clear.cls ≠ "java/lang/invoke/VarHandle" ∧ (parseMethodDescriptor yX0_clear.desc).map (fun d => d.parameters.length) = some 0 := by decide +kernel
theorem flX1_restart_18 : Cond.fieldLink RX1 18 "TwoTierCache$Tier" "policy" "I" ∈ wsX1_restart := by decide +kernel
theorem flX1_restart_22 : Cond.fieldLink RX1 22 "TwoTierCache$Tier" "capacity" "I" ∈ wsX1_restart := by decide +kernel
theorem flX1_restart_28 : Cond.fieldLink RX1 28 "TwoTierCache$Tier" "goal" "I" ∈ wsX1_restart := by decide +kernel
theorem flX1_restart_31 : Cond.fieldLink RX1 31 "TwoTierCache$Tier" "dirtyPages" "J" ∈ wsX1_restart := by decide +kernel
theorem flX1_restart_35 : Cond.fieldLink RX1 35 "TwoTierCache$Tier" "markedPages" "J" ∈ wsX1_restart := by decide +kernel
theorem flX1_restart_38 : Cond.fieldLink RX1 38 "TwoTierCache$Tier" "hits" "I" ∈ wsX1_restart := by decide +kernel
theorem flX1_restart_41 : Cond.fieldLink RX1 41 "TwoTierCache$Tier" "misses" "I" ∈ wsX1_restart := by decide +kernel
theorem flX1_restart_44 : Cond.fieldLink RX1 44 "TwoTierCache$Tier" "dirtyVictims" "I" ∈ wsX1_restart := by decide +kernel
set_option maxHeartbeats 4000000 in
set_option maxRecDepth 100000 in
/-- restart -/
theorem c_X1_restart (l : Launch) (K : gT) (h : Nat) (ad : Nat → Nat) (pol c g : Nat) (db mb : Int64) (hi mi dv : Int32) (a b d e : List Nat) (f0 f1 f2 f3 : Nat → Int32) (pol2 c2 : Nat) : Cv l yX1_restart wsX1_restart rmX1_restart K [.ref h, .int (nI pol2), .int (nI c2)] (tW K h ad pol c g db mb hi mi dv a b d e f0 f1 f2 f3) (fun (u : Unit) => True) (fun u => tW K h ad pol2 c2 0 0 0 0 0 0 ([]) ([]) ([]) ([]) f0 f1 f2 f3) 0 0 := by
  refine m_v (cc := cX1_restart) (own := RX1) (maxL := 4) (lv0 := [(0, .ref h), (1, .int (nI pol2)), (2, .int (nI c2))]) (by decide) rfl rfl (Nat.le_of_ble_eq_true rfl) rfl ?_
  intro X hX hin hret
  refine g_ws (ws' := [(h, .inr (1, [.ref (ad 0), .int (nI pol), .int (nI c), .int (nI g), .long db, .long mb, .int hi, .int mi, .int dv])), (ad 0, .inl (K.2.2.2, 4, .inr (.inr (.inr (.inr (rw4 (ad 1) (ad 3) (ad 5) (ad 7))))))), (ad 1, .inr (0, [.ref (ad 2), .int (nI a.length)])), (ad 2, .inl (K.2.1, 17, .inl f0)), (ad 3, .inr (0, [.ref (ad 4), .int (nI b.length)])), (ad 4, .inl (K.2.1, 17, .inl f1)), (ad 5, .inr (0, [.ref (ad 6), .int (nI d.length)])), (ad 6, .inl (K.2.1, 17, .inl f2)), (ad 7, .inr (0, [.ref (ad 8), .int (nI e.length)])), (ad 8, .inl (K.2.1, 17, .inl f3))]) rfl ?_
  refine g_iconst (pc := 0) (v := (nI 0)) hX dX1_restart_0 (by decide) ?_
  refine g_istore_n (pc := 1) (lv' := [(3, .int (nI 0)), (0, .ref h), (1, .int (nI pol2)), (2, .int (nI c2))]) hX dX1_restart_1 rfl (by decide) rfl ?_
  refine g_iload_n (pc := 2) hX dX1_restart_2 rfl 0 rfl ?_
  refine g_iconst (pc := 3) (v := (nI 4)) hX dX1_restart_3 (by decide) ?_
  refine g_icmpN_ge (pc := 4) (tgt := 22) hX (by omega) (by omega) dX1_restart_4 (by decide) (fun c4 => absurd c4 (by omega)) (fun c4 => ?_)
  refine g_aload_n (pc := 7) hX dX1_restart_7 rfl 1 rfl ?_
  refine g_get (pc := 8) (C := RX1) (T := TX1) (N := 9) (ci := 1) (v := .ref (ad 0)) hX inX1_restart_X1 0 rfl rfl 0 (by decide) flX1_restart_13 rfl rfl dX1_restart_8 ?_
  refine g_iload_n (pc := 11) hX dX1_restart_11 rfl 0 rfl ?_
  refine g_aldq (pc := 12) (v := .ref (ad 1)) hX 1 rfl (by omega) (by omega) rfl dX1_restart_12 ?_
  refine g_cv (pc := 13) hX (wc := [(ad 1, .inr (0, [.ref (ad 2), .int (nI a.length)])), (ad 2, .inl (K.2.1, 17, .inl f0))]) (wr := [(h, .inr (1, [.ref (ad 0), .int (nI pol), .int (nI c), .int (nI g), .long db, .long mb, .int hi, .int mi, .int dv])), (ad 0, .inl (K.2.2.2, 4, .inr (.inr (.inr (.inr (rw4 (ad 1) (ad 3) (ad 5) (ad 7))))))), (ad 3, .inr (0, [.ref (ad 4), .int (nI b.length)])), (ad 4, .inl (K.2.1, 17, .inl f1)), (ad 5, .inr (0, [.ref (ad 6), .int (nI d.length)])), (ad 6, .inl (K.2.1, 17, .inl f2)), (ad 7, .inr (0, [.ref (ad 8), .int (nI e.length)])), (ad 8, .inl (K.2.1, 17, .inl f3))]) (Wd' := fun u => [(h, .inr (1, [.ref (ad 0), .int (nI pol), .int (nI c), .int (nI g), .long db, .long mb, .int hi, .int mi, .int dv])), (ad 0, .inl (K.2.2.2, 4, .inr (.inr (.inr (.inr (rw4 (ad 1) (ad 3) (ad 5) (ad 7))))))), (ad 1, .inr (0, [.ref (ad 2), .int (nI (([] : List Nat).length))])), (ad 2, .inl (K.2.1, 17, .inl f0)), (ad 3, .inr (0, [.ref (ad 4), .int (nI b.length)])), (ad 4, .inl (K.2.1, 17, .inl f1)), (ad 5, .inr (0, [.ref (ad 6), .int (nI d.length)])), (ad 6, .inl (K.2.1, 17, .inl f2)), (ad 7, .inr (0, [.ref (ad 8), .int (nI e.length)])), (ad 8, .inl (K.2.1, 17, .inl f3))]) (g_goV (pc := 13) hX (As := []) (stk := []) (wc := [(ad 1, .inr (0, [.ref (ad 2), .int (nI a.length)])), (ad 2, .inl (K.2.1, 17, .inl f0))]) (c_X0_clear l K (ad 1) (ad 2) a f0) rfl rfl rfl gX1_restart_X0_clear nX0_clearV rfl 0 rfl ⟨(Nat.le_of_ble_eq_true rfl), (Nat.le_of_ble_eq_true rfl)⟩ [2, 3] rfl rfl rfl (Nat.le_of_ble_eq_true rfl) dX1_restart_13 ⟨(Nat.le_of_ble_eq_true rfl), (Nat.le_of_ble_eq_true rfl)⟩) [2, 3] [0, 1, 4, 5, 6, 7, 8, 9] [0, 1, 8, 9, 2, 3, 4, 5, 6, 7] rfl rfl rfl (by decide) rfl (fun _ => rfl) (fun u h13 => ?_)
  refine g_iinc (pc := 16) (z := 0) (v := (nI 1)) (lv' := [(3, .int (nI 1)), (0, .ref h), (1, .int (nI pol2)), (2, .int (nI c2))]) hX dX1_restart_16 rfl (by first | exact nI_add _ _ | rfl) (by decide) rfl ?_
  refine g_goto (pc := 19) (tgt := 2) hX dX1_restart_19 (by decide) ?_
  refine g_iload_n (pc := 2) hX dX1_restart_2 rfl 0 rfl ?_
  refine g_iconst (pc := 3) (v := (nI 4)) hX dX1_restart_3 (by decide) ?_
  refine g_icmpN_ge (pc := 4) (tgt := 22) hX (by omega) (by omega) dX1_restart_4 (by decide) (fun c4_1 => absurd c4_1 (by omega)) (fun c4_1 => ?_)
  refine g_aload_n (pc := 7) hX dX1_restart_7 rfl 1 rfl ?_
  refine g_get (pc := 8) (C := RX1) (T := TX1) (N := 9) (ci := 1) (v := .ref (ad 0)) hX inX1_restart_X1 0 rfl rfl 0 (by decide) flX1_restart_13 rfl rfl dX1_restart_8 ?_
  refine g_iload_n (pc := 11) hX dX1_restart_11 rfl 0 rfl ?_
  refine g_aldq (pc := 12) (v := .ref (ad 3)) hX 1 rfl (by omega) (by omega) rfl dX1_restart_12 ?_
  refine g_cv (pc := 13) hX (wc := [(ad 3, .inr (0, [.ref (ad 4), .int (nI b.length)])), (ad 4, .inl (K.2.1, 17, .inl f1))]) (wr := [(h, .inr (1, [.ref (ad 0), .int (nI pol), .int (nI c), .int (nI g), .long db, .long mb, .int hi, .int mi, .int dv])), (ad 0, .inl (K.2.2.2, 4, .inr (.inr (.inr (.inr (rw4 (ad 1) (ad 3) (ad 5) (ad 7))))))), (ad 1, .inr (0, [.ref (ad 2), .int (nI (([] : List Nat).length))])), (ad 2, .inl (K.2.1, 17, .inl f0)), (ad 5, .inr (0, [.ref (ad 6), .int (nI d.length)])), (ad 6, .inl (K.2.1, 17, .inl f2)), (ad 7, .inr (0, [.ref (ad 8), .int (nI e.length)])), (ad 8, .inl (K.2.1, 17, .inl f3))]) (Wd' := fun u => [(h, .inr (1, [.ref (ad 0), .int (nI pol), .int (nI c), .int (nI g), .long db, .long mb, .int hi, .int mi, .int dv])), (ad 0, .inl (K.2.2.2, 4, .inr (.inr (.inr (.inr (rw4 (ad 1) (ad 3) (ad 5) (ad 7))))))), (ad 1, .inr (0, [.ref (ad 2), .int (nI (([] : List Nat).length))])), (ad 2, .inl (K.2.1, 17, .inl f0)), (ad 3, .inr (0, [.ref (ad 4), .int (nI (([] : List Nat).length))])), (ad 4, .inl (K.2.1, 17, .inl f1)), (ad 5, .inr (0, [.ref (ad 6), .int (nI d.length)])), (ad 6, .inl (K.2.1, 17, .inl f2)), (ad 7, .inr (0, [.ref (ad 8), .int (nI e.length)])), (ad 8, .inl (K.2.1, 17, .inl f3))]) (g_goV (pc := 13) hX (As := []) (stk := []) (wc := [(ad 3, .inr (0, [.ref (ad 4), .int (nI b.length)])), (ad 4, .inl (K.2.1, 17, .inl f1))]) (c_X0_clear l K (ad 3) (ad 4) b f1) rfl rfl rfl gX1_restart_X0_clear nX0_clearV rfl 0 rfl ⟨(Nat.le_of_ble_eq_true rfl), (Nat.le_of_ble_eq_true rfl)⟩ [4, 5] rfl rfl rfl (Nat.le_of_ble_eq_true rfl) dX1_restart_13 ⟨(Nat.le_of_ble_eq_true rfl), (Nat.le_of_ble_eq_true rfl)⟩) [4, 5] [0, 1, 2, 3, 6, 7, 8, 9] [0, 1, 2, 3, 8, 9, 4, 5, 6, 7] rfl rfl rfl (by decide) rfl (fun _ => rfl) (fun u h13 => ?_)
  refine g_iinc (pc := 16) (z := 0) (v := (nI 2)) (lv' := [(3, .int (nI 2)), (0, .ref h), (1, .int (nI pol2)), (2, .int (nI c2))]) hX dX1_restart_16 rfl (by first | exact nI_add _ _ | rfl) (by decide) rfl ?_
  refine g_goto (pc := 19) (tgt := 2) hX dX1_restart_19 (by decide) ?_
  refine g_iload_n (pc := 2) hX dX1_restart_2 rfl 0 rfl ?_
  refine g_iconst (pc := 3) (v := (nI 4)) hX dX1_restart_3 (by decide) ?_
  refine g_icmpN_ge (pc := 4) (tgt := 22) hX (by omega) (by omega) dX1_restart_4 (by decide) (fun c4_2 => absurd c4_2 (by omega)) (fun c4_2 => ?_)
  refine g_aload_n (pc := 7) hX dX1_restart_7 rfl 1 rfl ?_
  refine g_get (pc := 8) (C := RX1) (T := TX1) (N := 9) (ci := 1) (v := .ref (ad 0)) hX inX1_restart_X1 0 rfl rfl 0 (by decide) flX1_restart_13 rfl rfl dX1_restart_8 ?_
  refine g_iload_n (pc := 11) hX dX1_restart_11 rfl 0 rfl ?_
  refine g_aldq (pc := 12) (v := .ref (ad 5)) hX 1 rfl (by omega) (by omega) rfl dX1_restart_12 ?_
  refine g_cv (pc := 13) hX (wc := [(ad 5, .inr (0, [.ref (ad 6), .int (nI d.length)])), (ad 6, .inl (K.2.1, 17, .inl f2))]) (wr := [(h, .inr (1, [.ref (ad 0), .int (nI pol), .int (nI c), .int (nI g), .long db, .long mb, .int hi, .int mi, .int dv])), (ad 0, .inl (K.2.2.2, 4, .inr (.inr (.inr (.inr (rw4 (ad 1) (ad 3) (ad 5) (ad 7))))))), (ad 1, .inr (0, [.ref (ad 2), .int (nI (([] : List Nat).length))])), (ad 2, .inl (K.2.1, 17, .inl f0)), (ad 3, .inr (0, [.ref (ad 4), .int (nI (([] : List Nat).length))])), (ad 4, .inl (K.2.1, 17, .inl f1)), (ad 7, .inr (0, [.ref (ad 8), .int (nI e.length)])), (ad 8, .inl (K.2.1, 17, .inl f3))]) (Wd' := fun u => [(h, .inr (1, [.ref (ad 0), .int (nI pol), .int (nI c), .int (nI g), .long db, .long mb, .int hi, .int mi, .int dv])), (ad 0, .inl (K.2.2.2, 4, .inr (.inr (.inr (.inr (rw4 (ad 1) (ad 3) (ad 5) (ad 7))))))), (ad 1, .inr (0, [.ref (ad 2), .int (nI (([] : List Nat).length))])), (ad 2, .inl (K.2.1, 17, .inl f0)), (ad 3, .inr (0, [.ref (ad 4), .int (nI (([] : List Nat).length))])), (ad 4, .inl (K.2.1, 17, .inl f1)), (ad 5, .inr (0, [.ref (ad 6), .int (nI (([] : List Nat).length))])), (ad 6, .inl (K.2.1, 17, .inl f2)), (ad 7, .inr (0, [.ref (ad 8), .int (nI e.length)])), (ad 8, .inl (K.2.1, 17, .inl f3))]) (g_goV (pc := 13) hX (As := []) (stk := []) (wc := [(ad 5, .inr (0, [.ref (ad 6), .int (nI d.length)])), (ad 6, .inl (K.2.1, 17, .inl f2))]) (c_X0_clear l K (ad 5) (ad 6) d f2) rfl rfl rfl gX1_restart_X0_clear nX0_clearV rfl 0 rfl ⟨(Nat.le_of_ble_eq_true rfl), (Nat.le_of_ble_eq_true rfl)⟩ [6, 7] rfl rfl rfl (Nat.le_of_ble_eq_true rfl) dX1_restart_13 ⟨(Nat.le_of_ble_eq_true rfl), (Nat.le_of_ble_eq_true rfl)⟩) [6, 7] [0, 1, 2, 3, 4, 5, 8, 9] [0, 1, 2, 3, 4, 5, 8, 9, 6, 7] rfl rfl rfl (by decide) rfl (fun _ => rfl) (fun u h13 => ?_)
  refine g_iinc (pc := 16) (z := 0) (v := (nI 3)) (lv' := [(3, .int (nI 3)), (0, .ref h), (1, .int (nI pol2)), (2, .int (nI c2))]) hX dX1_restart_16 rfl (by first | exact nI_add _ _ | rfl) (by decide) rfl ?_
  refine g_goto (pc := 19) (tgt := 2) hX dX1_restart_19 (by decide) ?_
  refine g_iload_n (pc := 2) hX dX1_restart_2 rfl 0 rfl ?_
  refine g_iconst (pc := 3) (v := (nI 4)) hX dX1_restart_3 (by decide) ?_
  refine g_icmpN_ge (pc := 4) (tgt := 22) hX (by omega) (by omega) dX1_restart_4 (by decide) (fun c4_3 => absurd c4_3 (by omega)) (fun c4_3 => ?_)
  refine g_aload_n (pc := 7) hX dX1_restart_7 rfl 1 rfl ?_
  refine g_get (pc := 8) (C := RX1) (T := TX1) (N := 9) (ci := 1) (v := .ref (ad 0)) hX inX1_restart_X1 0 rfl rfl 0 (by decide) flX1_restart_13 rfl rfl dX1_restart_8 ?_
  refine g_iload_n (pc := 11) hX dX1_restart_11 rfl 0 rfl ?_
  refine g_aldq (pc := 12) (v := .ref (ad 7)) hX 1 rfl (by omega) (by omega) rfl dX1_restart_12 ?_
  refine g_cv (pc := 13) hX (wc := [(ad 7, .inr (0, [.ref (ad 8), .int (nI e.length)])), (ad 8, .inl (K.2.1, 17, .inl f3))]) (wr := [(h, .inr (1, [.ref (ad 0), .int (nI pol), .int (nI c), .int (nI g), .long db, .long mb, .int hi, .int mi, .int dv])), (ad 0, .inl (K.2.2.2, 4, .inr (.inr (.inr (.inr (rw4 (ad 1) (ad 3) (ad 5) (ad 7))))))), (ad 1, .inr (0, [.ref (ad 2), .int (nI (([] : List Nat).length))])), (ad 2, .inl (K.2.1, 17, .inl f0)), (ad 3, .inr (0, [.ref (ad 4), .int (nI (([] : List Nat).length))])), (ad 4, .inl (K.2.1, 17, .inl f1)), (ad 5, .inr (0, [.ref (ad 6), .int (nI (([] : List Nat).length))])), (ad 6, .inl (K.2.1, 17, .inl f2))]) (Wd' := fun u => [(h, .inr (1, [.ref (ad 0), .int (nI pol), .int (nI c), .int (nI g), .long db, .long mb, .int hi, .int mi, .int dv])), (ad 0, .inl (K.2.2.2, 4, .inr (.inr (.inr (.inr (rw4 (ad 1) (ad 3) (ad 5) (ad 7))))))), (ad 1, .inr (0, [.ref (ad 2), .int (nI (([] : List Nat).length))])), (ad 2, .inl (K.2.1, 17, .inl f0)), (ad 3, .inr (0, [.ref (ad 4), .int (nI (([] : List Nat).length))])), (ad 4, .inl (K.2.1, 17, .inl f1)), (ad 5, .inr (0, [.ref (ad 6), .int (nI (([] : List Nat).length))])), (ad 6, .inl (K.2.1, 17, .inl f2)), (ad 7, .inr (0, [.ref (ad 8), .int (nI (([] : List Nat).length))])), (ad 8, .inl (K.2.1, 17, .inl f3))]) (g_goV (pc := 13) hX (As := []) (stk := []) (wc := [(ad 7, .inr (0, [.ref (ad 8), .int (nI e.length)])), (ad 8, .inl (K.2.1, 17, .inl f3))]) (c_X0_clear l K (ad 7) (ad 8) e f3) rfl rfl rfl gX1_restart_X0_clear nX0_clearV rfl 0 rfl ⟨(Nat.le_of_ble_eq_true rfl), (Nat.le_of_ble_eq_true rfl)⟩ [8, 9] rfl rfl rfl (Nat.le_of_ble_eq_true rfl) dX1_restart_13 ⟨(Nat.le_of_ble_eq_true rfl), (Nat.le_of_ble_eq_true rfl)⟩) [8, 9] [0, 1, 2, 3, 4, 5, 6, 7] [0, 1, 2, 3, 4, 5, 6, 7, 8, 9] rfl rfl rfl (by decide) rfl (fun _ => rfl) (fun u h13 => ?_)
  refine g_iinc (pc := 16) (z := 0) (v := (nI 4)) (lv' := [(3, .int (nI 4)), (0, .ref h), (1, .int (nI pol2)), (2, .int (nI c2))]) hX dX1_restart_16 rfl (by first | exact nI_add _ _ | rfl) (by decide) rfl ?_
  refine g_goto (pc := 19) (tgt := 2) hX dX1_restart_19 (by decide) ?_
  refine g_iload_n (pc := 2) hX dX1_restart_2 rfl 0 rfl ?_
  refine g_iconst (pc := 3) (v := (nI 4)) hX dX1_restart_3 (by decide) ?_
  refine g_icmpN_ge (pc := 4) (tgt := 22) hX (by omega) (by omega) dX1_restart_4 (by decide) (fun c4_4 => ?_) (fun c4_4 => absurd c4_4 (by omega))
  refine g_aload_n (pc := 22) hX dX1_restart_22 rfl 1 rfl ?_
  refine g_iload_n (pc := 23) hX dX1_restart_23 rfl 2 rfl ?_
  refine g_put (pc := 24) (C := RX1) (T := TX1) (N := 9) (ci := 1) (v := .int (nI pol2)) (ws' := [(h, .inr (1, [.ref (ad 0), .int (nI pol2), .int (nI c), .int (nI g), .long db, .long mb, .int hi, .int mi, .int dv])), (ad 0, .inl (K.2.2.2, 4, .inr (.inr (.inr (.inr (rw4 (ad 1) (ad 3) (ad 5) (ad 7))))))), (ad 1, .inr (0, [.ref (ad 2), .int (nI (([] : List Nat).length))])), (ad 2, .inl (K.2.1, 17, .inl f0)), (ad 3, .inr (0, [.ref (ad 4), .int (nI (([] : List Nat).length))])), (ad 4, .inl (K.2.1, 17, .inl f1)), (ad 5, .inr (0, [.ref (ad 6), .int (nI (([] : List Nat).length))])), (ad 6, .inl (K.2.1, 17, .inl f2)), (ad 7, .inr (0, [.ref (ad 8), .int (nI (([] : List Nat).length))])), (ad 8, .inl (K.2.1, 17, .inl f3))]) hX inX1_restart_X1 tyX1 tyX1_ok nmX1 0 rfl rfl 1 (by decide) flX1_restart_18 rfl rfl rfl rfl (Nat.le_of_ble_eq_true rfl) rfl dX1_restart_24 ?_
  refine g_aload_n (pc := 27) hX dX1_restart_27 rfl 1 rfl ?_
  refine g_iload_n (pc := 28) hX dX1_restart_28 rfl 3 rfl ?_
  refine g_put (pc := 29) (C := RX1) (T := TX1) (N := 9) (ci := 1) (v := .int (nI c2)) (ws' := [(h, .inr (1, [.ref (ad 0), .int (nI pol2), .int (nI c2), .int (nI g), .long db, .long mb, .int hi, .int mi, .int dv])), (ad 0, .inl (K.2.2.2, 4, .inr (.inr (.inr (.inr (rw4 (ad 1) (ad 3) (ad 5) (ad 7))))))), (ad 1, .inr (0, [.ref (ad 2), .int (nI (([] : List Nat).length))])), (ad 2, .inl (K.2.1, 17, .inl f0)), (ad 3, .inr (0, [.ref (ad 4), .int (nI (([] : List Nat).length))])), (ad 4, .inl (K.2.1, 17, .inl f1)), (ad 5, .inr (0, [.ref (ad 6), .int (nI (([] : List Nat).length))])), (ad 6, .inl (K.2.1, 17, .inl f2)), (ad 7, .inr (0, [.ref (ad 8), .int (nI (([] : List Nat).length))])), (ad 8, .inl (K.2.1, 17, .inl f3))]) hX inX1_restart_X1 tyX1 tyX1_ok nmX1 0 rfl rfl 2 (by decide) flX1_restart_22 rfl rfl rfl rfl (Nat.le_of_ble_eq_true rfl) rfl dX1_restart_29 ?_
  refine g_aload_n (pc := 32) hX dX1_restart_32 rfl 1 rfl ?_
  refine g_iconst (pc := 33) (v := (nI 0)) hX dX1_restart_33 (by decide) ?_
  refine g_put (pc := 34) (C := RX1) (T := TX1) (N := 9) (ci := 1) (v := .int (nI 0)) (ws' := [(h, .inr (1, [.ref (ad 0), .int (nI pol2), .int (nI c2), .int (nI 0), .long db, .long mb, .int hi, .int mi, .int dv])), (ad 0, .inl (K.2.2.2, 4, .inr (.inr (.inr (.inr (rw4 (ad 1) (ad 3) (ad 5) (ad 7))))))), (ad 1, .inr (0, [.ref (ad 2), .int (nI (([] : List Nat).length))])), (ad 2, .inl (K.2.1, 17, .inl f0)), (ad 3, .inr (0, [.ref (ad 4), .int (nI (([] : List Nat).length))])), (ad 4, .inl (K.2.1, 17, .inl f1)), (ad 5, .inr (0, [.ref (ad 6), .int (nI (([] : List Nat).length))])), (ad 6, .inl (K.2.1, 17, .inl f2)), (ad 7, .inr (0, [.ref (ad 8), .int (nI (([] : List Nat).length))])), (ad 8, .inl (K.2.1, 17, .inl f3))]) hX inX1_restart_X1 tyX1 tyX1_ok nmX1 0 rfl rfl 3 (by decide) flX1_restart_28 rfl rfl rfl rfl (Nat.le_of_ble_eq_true rfl) rfl dX1_restart_34 ?_
  refine g_aload_n (pc := 37) hX dX1_restart_37 rfl 1 rfl ?_
  refine g_lconst (pc := 38) (v := 0) hX dX1_restart_38 (by decide) ?_
  refine g_put (pc := 39) (C := RX1) (T := TX1) (N := 9) (ci := 1) (v := .long 0) (ws' := [(h, .inr (1, [.ref (ad 0), .int (nI pol2), .int (nI c2), .int (nI 0), .long 0, .long mb, .int hi, .int mi, .int dv])), (ad 0, .inl (K.2.2.2, 4, .inr (.inr (.inr (.inr (rw4 (ad 1) (ad 3) (ad 5) (ad 7))))))), (ad 1, .inr (0, [.ref (ad 2), .int (nI (([] : List Nat).length))])), (ad 2, .inl (K.2.1, 17, .inl f0)), (ad 3, .inr (0, [.ref (ad 4), .int (nI (([] : List Nat).length))])), (ad 4, .inl (K.2.1, 17, .inl f1)), (ad 5, .inr (0, [.ref (ad 6), .int (nI (([] : List Nat).length))])), (ad 6, .inl (K.2.1, 17, .inl f2)), (ad 7, .inr (0, [.ref (ad 8), .int (nI (([] : List Nat).length))])), (ad 8, .inl (K.2.1, 17, .inl f3))]) hX inX1_restart_X1 tyX1 tyX1_ok nmX1 0 rfl rfl 4 (by decide) flX1_restart_31 rfl rfl rfl rfl (Nat.le_of_ble_eq_true rfl) rfl dX1_restart_39 ?_
  refine g_aload_n (pc := 42) hX dX1_restart_42 rfl 1 rfl ?_
  refine g_lconst (pc := 43) (v := 0) hX dX1_restart_43 (by decide) ?_
  refine g_put (pc := 44) (C := RX1) (T := TX1) (N := 9) (ci := 1) (v := .long 0) (ws' := [(h, .inr (1, [.ref (ad 0), .int (nI pol2), .int (nI c2), .int (nI 0), .long 0, .long 0, .int hi, .int mi, .int dv])), (ad 0, .inl (K.2.2.2, 4, .inr (.inr (.inr (.inr (rw4 (ad 1) (ad 3) (ad 5) (ad 7))))))), (ad 1, .inr (0, [.ref (ad 2), .int (nI (([] : List Nat).length))])), (ad 2, .inl (K.2.1, 17, .inl f0)), (ad 3, .inr (0, [.ref (ad 4), .int (nI (([] : List Nat).length))])), (ad 4, .inl (K.2.1, 17, .inl f1)), (ad 5, .inr (0, [.ref (ad 6), .int (nI (([] : List Nat).length))])), (ad 6, .inl (K.2.1, 17, .inl f2)), (ad 7, .inr (0, [.ref (ad 8), .int (nI (([] : List Nat).length))])), (ad 8, .inl (K.2.1, 17, .inl f3))]) hX inX1_restart_X1 tyX1 tyX1_ok nmX1 0 rfl rfl 5 (by decide) flX1_restart_35 rfl rfl rfl rfl (Nat.le_of_ble_eq_true rfl) rfl dX1_restart_44 ?_
  refine g_aload_n (pc := 47) hX dX1_restart_47 rfl 1 rfl ?_
  refine g_iconst (pc := 48) (v := (nI 0)) hX dX1_restart_48 (by decide) ?_
  refine g_put (pc := 49) (C := RX1) (T := TX1) (N := 9) (ci := 1) (v := .int (nI 0)) (ws' := [(h, .inr (1, [.ref (ad 0), .int (nI pol2), .int (nI c2), .int (nI 0), .long 0, .long 0, .int (nI 0), .int mi, .int dv])), (ad 0, .inl (K.2.2.2, 4, .inr (.inr (.inr (.inr (rw4 (ad 1) (ad 3) (ad 5) (ad 7))))))), (ad 1, .inr (0, [.ref (ad 2), .int (nI (([] : List Nat).length))])), (ad 2, .inl (K.2.1, 17, .inl f0)), (ad 3, .inr (0, [.ref (ad 4), .int (nI (([] : List Nat).length))])), (ad 4, .inl (K.2.1, 17, .inl f1)), (ad 5, .inr (0, [.ref (ad 6), .int (nI (([] : List Nat).length))])), (ad 6, .inl (K.2.1, 17, .inl f2)), (ad 7, .inr (0, [.ref (ad 8), .int (nI (([] : List Nat).length))])), (ad 8, .inl (K.2.1, 17, .inl f3))]) hX inX1_restart_X1 tyX1 tyX1_ok nmX1 0 rfl rfl 6 (by decide) flX1_restart_38 rfl rfl rfl rfl (Nat.le_of_ble_eq_true rfl) rfl dX1_restart_49 ?_
  refine g_aload_n (pc := 52) hX dX1_restart_52 rfl 1 rfl ?_
  refine g_iconst (pc := 53) (v := (nI 0)) hX dX1_restart_53 (by decide) ?_
  refine g_put (pc := 54) (C := RX1) (T := TX1) (N := 9) (ci := 1) (v := .int (nI 0)) (ws' := [(h, .inr (1, [.ref (ad 0), .int (nI pol2), .int (nI c2), .int (nI 0), .long 0, .long 0, .int (nI 0), .int (nI 0), .int dv])), (ad 0, .inl (K.2.2.2, 4, .inr (.inr (.inr (.inr (rw4 (ad 1) (ad 3) (ad 5) (ad 7))))))), (ad 1, .inr (0, [.ref (ad 2), .int (nI (([] : List Nat).length))])), (ad 2, .inl (K.2.1, 17, .inl f0)), (ad 3, .inr (0, [.ref (ad 4), .int (nI (([] : List Nat).length))])), (ad 4, .inl (K.2.1, 17, .inl f1)), (ad 5, .inr (0, [.ref (ad 6), .int (nI (([] : List Nat).length))])), (ad 6, .inl (K.2.1, 17, .inl f2)), (ad 7, .inr (0, [.ref (ad 8), .int (nI (([] : List Nat).length))])), (ad 8, .inl (K.2.1, 17, .inl f3))]) hX inX1_restart_X1 tyX1 tyX1_ok nmX1 0 rfl rfl 7 (by decide) flX1_restart_41 rfl rfl rfl rfl (Nat.le_of_ble_eq_true rfl) rfl dX1_restart_54 ?_
  refine g_aload_n (pc := 57) hX dX1_restart_57 rfl 1 rfl ?_
  refine g_iconst (pc := 58) (v := (nI 0)) hX dX1_restart_58 (by decide) ?_
  refine g_put (pc := 59) (C := RX1) (T := TX1) (N := 9) (ci := 1) (v := .int (nI 0)) (ws' := [(h, .inr (1, [.ref (ad 0), .int (nI pol2), .int (nI c2), .int (nI 0), .long 0, .long 0, .int (nI 0), .int (nI 0), .int (nI 0)])), (ad 0, .inl (K.2.2.2, 4, .inr (.inr (.inr (.inr (rw4 (ad 1) (ad 3) (ad 5) (ad 7))))))), (ad 1, .inr (0, [.ref (ad 2), .int (nI (([] : List Nat).length))])), (ad 2, .inl (K.2.1, 17, .inl f0)), (ad 3, .inr (0, [.ref (ad 4), .int (nI (([] : List Nat).length))])), (ad 4, .inl (K.2.1, 17, .inl f1)), (ad 5, .inr (0, [.ref (ad 6), .int (nI (([] : List Nat).length))])), (ad 6, .inl (K.2.1, 17, .inl f2)), (ad 7, .inr (0, [.ref (ad 8), .int (nI (([] : List Nat).length))])), (ad 8, .inl (K.2.1, 17, .inl f3))]) hX inX1_restart_X1 tyX1 tyX1_ok nmX1 0 rfl rfl 8 (by decide) flX1_restart_44 rfl rfl rfl rfl (Nat.le_of_ble_eq_true rfl) rfl dX1_restart_59 ?_
  exact hret (u := ()) dX1_restart_62 trivial rfl
abbrev rmX1_holds : Room := { frames := 2, cells := 0, slots := 0, locals := 43 }
theorem flX1_holds_18 : Cond.fieldLink RX1 18 "TwoTierCache$Tier" "policy" "I" ∈ wsX1_holds := by decide +kernel
theorem inX1_holds_X1 : ∀ w ∈ u_ws RX1 TX1 9, w ∈ wsX1_holds := by decide +kernel
theorem flX1_holds_13 : Cond.fieldLink RX1 13 "TwoTierCache$Tier" "rows" "[LTwoTierCache$PageRow;" ∈ wsX1_holds := by decide +kernel
theorem nX0_hasV : yX0_has.cls = RX0 ∧ yX0_has.cls ≠ "java/lang/invoke/MethodHandle" ∧ yX0_has.cls ≠ "java/lang/invoke/VarHandle" ∧ (parseMethodDescriptor yX0_has.desc).map (fun d => d.parameters.length) = some 1 := by decide +kernel
set_option maxHeartbeats 4000000 in
set_option maxRecDepth 100000 in
/-- holds -/
theorem c_X1_holds (l : Launch) (K : gT) (h : Nat) (ad : Nat → Nat) (pol c g : Nat) (db mb : Int64) (hi mi dv : Int32) (a b d e : List Nat) (f0 f1 f2 f3 : Nat → Int32) (R0 : rowR f0 a) (R1 : rowR f1 b) (R2 : rowR f2 d) (R3 : rowR f3 e) (hpol : pol < 4) (x : Nat) (hx : x < 64) : Ci l yX1_holds wsX1_holds rmX1_holds K [.ref h, .int (nI x)] (tW K h ad pol c g db mb hi mi dv a b d e f0 f1 f2 f3) (fun (r : Int32) (u : Unit) => r = bI (sHolds pol a b d x)) (fun u => tW K h ad pol c g db mb hi mi dv a b d e f0 f1 f2 f3) 0 0 := by
  refine m_z (cc := cX1_holds) (own := RX1) (maxL := 3) (lv0 := [(0, .ref h), (1, .int (nI x))]) (by decide) rfl rfl (Nat.le_of_ble_eq_true rfl) rfl ?_
  intro X hX hin hret
  refine g_ws (ws' := [(h, .inr (1, [.ref (ad 0), .int (nI pol), .int (nI c), .int (nI g), .long db, .long mb, .int hi, .int mi, .int dv])), (ad 0, .inl (K.2.2.2, 4, .inr (.inr (.inr (.inr (rw4 (ad 1) (ad 3) (ad 5) (ad 7))))))), (ad 1, .inr (0, [.ref (ad 2), .int (nI a.length)])), (ad 2, .inl (K.2.1, 17, .inl f0)), (ad 3, .inr (0, [.ref (ad 4), .int (nI b.length)])), (ad 4, .inl (K.2.1, 17, .inl f1)), (ad 5, .inr (0, [.ref (ad 6), .int (nI d.length)])), (ad 6, .inl (K.2.1, 17, .inl f2)), (ad 7, .inr (0, [.ref (ad 8), .int (nI e.length)])), (ad 8, .inl (K.2.1, 17, .inl f3))]) rfl ?_
  refine g_aload_n (pc := 0) hX dX1_holds_0 rfl 0 rfl ?_
  refine g_get (pc := 1) (C := RX1) (T := TX1) (N := 9) (ci := 1) (v := .int (nI pol)) hX inX1_holds_X1 0 rfl rfl 1 (by decide) flX1_holds_18 rfl rfl dX1_holds_1 ?_
  refine g_iconst (pc := 4) (v := (nI 2)) hX dX1_holds_4 (by decide) ?_
  refine g_icmpN_ne (pc := 5) (tgt := 12) hX (by omega) (by omega) dX1_holds_5 (by decide) (fun c5 => ?_) (fun c5 => ?_)
  · refine g_iconst (pc := 12) (v := (nI 1)) hX dX1_holds_12 (by decide) ?_
    refine g_istore_n (pc := 13) (lv' := [(2, .int (nI 1)), (0, .ref h), (1, .int (nI x))]) hX dX1_holds_13 rfl (by decide) rfl ?_
    refine g_aload_n (pc := 14) hX dX1_holds_14 rfl 1 rfl ?_
    refine g_get (pc := 15) (C := RX1) (T := TX1) (N := 9) (ci := 1) (v := .ref (ad 0)) hX inX1_holds_X1 0 rfl rfl 0 (by decide) flX1_holds_13 rfl rfl dX1_holds_15 ?_
    refine g_iconst (pc := 18) (v := (nI 0)) hX dX1_holds_18 (by decide) ?_
    refine g_aldq (pc := 19) (v := .ref (ad 1)) hX 1 rfl (by omega) (by omega) rfl dX1_holds_19 ?_
    refine g_iload_n (pc := 20) hX dX1_holds_20 rfl 2 rfl ?_
    refine g_ci (pc := 21) hX (wc := [(ad 1, .inr (0, [.ref (ad 2), .int (nI a.length)])), (ad 2, .inl (K.2.1, 17, .inl f0))]) (wr := [(h, .inr (1, [.ref (ad 0), .int (nI pol), .int (nI c), .int (nI g), .long db, .long mb, .int hi, .int mi, .int dv])), (ad 0, .inl (K.2.2.2, 4, .inr (.inr (.inr (.inr (rw4 (ad 1) (ad 3) (ad 5) (ad 7))))))), (ad 3, .inr (0, [.ref (ad 4), .int (nI b.length)])), (ad 4, .inl (K.2.1, 17, .inl f1)), (ad 5, .inr (0, [.ref (ad 6), .int (nI d.length)])), (ad 6, .inl (K.2.1, 17, .inl f2)), (ad 7, .inr (0, [.ref (ad 8), .int (nI e.length)])), (ad 8, .inl (K.2.1, 17, .inl f3))]) (Wd' := fun u => [(h, .inr (1, [.ref (ad 0), .int (nI pol), .int (nI c), .int (nI g), .long db, .long mb, .int hi, .int mi, .int dv])), (ad 0, .inl (K.2.2.2, 4, .inr (.inr (.inr (.inr (rw4 (ad 1) (ad 3) (ad 5) (ad 7))))))), (ad 1, .inr (0, [.ref (ad 2), .int (nI a.length)])), (ad 2, .inl (K.2.1, 17, .inl f0)), (ad 3, .inr (0, [.ref (ad 4), .int (nI b.length)])), (ad 4, .inl (K.2.1, 17, .inl f1)), (ad 5, .inr (0, [.ref (ad 6), .int (nI d.length)])), (ad 6, .inl (K.2.1, 17, .inl f2)), (ad 7, .inr (0, [.ref (ad 8), .int (nI e.length)])), (ad 8, .inl (K.2.1, 17, .inl f3))]) (g_goV (pc := 21) hX (As := [.int (nI x)]) (stk := []) (wc := [(ad 1, .inr (0, [.ref (ad 2), .int (nI a.length)])), (ad 2, .inl (K.2.1, 17, .inl f0))]) (c_X0_has l K (ad 1) (ad 2) a f0 R0 x (by omega)) rfl rfl rfl gX1_holds_X0_has nX0_hasV rfl 0 rfl ⟨(Nat.le_of_ble_eq_true rfl), (Nat.le_of_ble_eq_true rfl)⟩ [2, 3] rfl rfl rfl (Nat.le_of_ble_eq_true rfl) dX1_holds_21 ⟨(Nat.le_of_ble_eq_true rfl), (Nat.le_of_ble_eq_true rfl)⟩) [2, 3] [0, 1, 4, 5, 6, 7, 8, 9] [0, 1, 8, 9, 2, 3, 4, 5, 6, 7] rfl rfl rfl (by decide) rfl (fun _ => rfl) (fun r u h21 => ?_)
    obtain rfl := h21
    refine g_ifB_ne (pc := 24) (tgt := 40) hX dX1_holds_24 (by decide) (fun c24 => ?_) (fun c24 => ?_)
    · refine g_iconst (pc := 40) (v := (nI 1)) hX dX1_holds_40 (by decide) ?_
      refine g_goto (pc := 41) (tgt := 45) hX dX1_holds_41 (by decide) ?_
      refine g_top (y := bI true) (by decide) ?_
      exact hret (v := true) (u := ()) dX1_holds_45 (by rw [show sHolds pol a b d x = true from by unfold sHolds; rw [c24]; first | done | rfl]) rfl
    · refine g_aload_n (pc := 27) hX dX1_holds_27 rfl 1 rfl ?_
      refine g_get (pc := 28) (C := RX1) (T := TX1) (N := 9) (ci := 1) (v := .ref (ad 0)) hX inX1_holds_X1 0 rfl rfl 0 (by decide) flX1_holds_13 rfl rfl dX1_holds_28 ?_
      refine g_iload_n (pc := 31) hX dX1_holds_31 rfl 0 rfl ?_
      refine g_aldq (pc := 32) (v := .ref (ad 3)) hX 1 rfl (by omega) (by omega) rfl dX1_holds_32 ?_
      refine g_iload_n (pc := 33) hX dX1_holds_33 rfl 2 rfl ?_
      refine g_ci (pc := 34) hX (wc := [(ad 3, .inr (0, [.ref (ad 4), .int (nI b.length)])), (ad 4, .inl (K.2.1, 17, .inl f1))]) (wr := [(h, .inr (1, [.ref (ad 0), .int (nI pol), .int (nI c), .int (nI g), .long db, .long mb, .int hi, .int mi, .int dv])), (ad 0, .inl (K.2.2.2, 4, .inr (.inr (.inr (.inr (rw4 (ad 1) (ad 3) (ad 5) (ad 7))))))), (ad 1, .inr (0, [.ref (ad 2), .int (nI a.length)])), (ad 2, .inl (K.2.1, 17, .inl f0)), (ad 5, .inr (0, [.ref (ad 6), .int (nI d.length)])), (ad 6, .inl (K.2.1, 17, .inl f2)), (ad 7, .inr (0, [.ref (ad 8), .int (nI e.length)])), (ad 8, .inl (K.2.1, 17, .inl f3))]) (Wd' := fun u => [(h, .inr (1, [.ref (ad 0), .int (nI pol), .int (nI c), .int (nI g), .long db, .long mb, .int hi, .int mi, .int dv])), (ad 0, .inl (K.2.2.2, 4, .inr (.inr (.inr (.inr (rw4 (ad 1) (ad 3) (ad 5) (ad 7))))))), (ad 1, .inr (0, [.ref (ad 2), .int (nI a.length)])), (ad 2, .inl (K.2.1, 17, .inl f0)), (ad 3, .inr (0, [.ref (ad 4), .int (nI b.length)])), (ad 4, .inl (K.2.1, 17, .inl f1)), (ad 5, .inr (0, [.ref (ad 6), .int (nI d.length)])), (ad 6, .inl (K.2.1, 17, .inl f2)), (ad 7, .inr (0, [.ref (ad 8), .int (nI e.length)])), (ad 8, .inl (K.2.1, 17, .inl f3))]) (g_goV (pc := 34) hX (As := [.int (nI x)]) (stk := []) (wc := [(ad 3, .inr (0, [.ref (ad 4), .int (nI b.length)])), (ad 4, .inl (K.2.1, 17, .inl f1))]) (c_X0_has l K (ad 3) (ad 4) b f1 R1 x (by omega)) rfl rfl rfl gX1_holds_X0_has nX0_hasV rfl 0 rfl ⟨(Nat.le_of_ble_eq_true rfl), (Nat.le_of_ble_eq_true rfl)⟩ [4, 5] rfl rfl rfl (Nat.le_of_ble_eq_true rfl) dX1_holds_34 ⟨(Nat.le_of_ble_eq_true rfl), (Nat.le_of_ble_eq_true rfl)⟩) [4, 5] [0, 1, 2, 3, 6, 7, 8, 9] [0, 1, 2, 3, 8, 9, 4, 5, 6, 7] rfl rfl rfl (by decide) rfl (fun _ => rfl) (fun r u h34 => ?_)
      obtain rfl := h34
      refine g_ifB_eq (pc := 37) (tgt := 44) hX dX1_holds_37 (by decide) (fun c37 => ?_) (fun c37 => ?_)
      · refine g_iconst (pc := 44) (v := (nI 0)) hX dX1_holds_44 (by decide) ?_
        refine g_top (y := bI false) (by decide) ?_
        exact hret (v := false) (u := ()) dX1_holds_45 (by rw [show sHolds pol a b d x = false from by unfold sHolds; rw [c24, if_neg c5, c37]; first | done | rfl]) rfl
      · refine g_iconst (pc := 40) (v := (nI 1)) hX dX1_holds_40 (by decide) ?_
        refine g_goto (pc := 41) (tgt := 45) hX dX1_holds_41 (by decide) ?_
        refine g_top (y := bI true) (by decide) ?_
        exact hret (v := true) (u := ()) dX1_holds_45 (by rw [show sHolds pol a b d x = true from by unfold sHolds; rw [c24, if_neg c5, c37]; first | done | rfl]) rfl
  · refine g_iconst (pc := 8) (v := (nI 2)) hX dX1_holds_8 (by decide) ?_
    refine g_goto (pc := 9) (tgt := 13) hX dX1_holds_9 (by decide) ?_
    refine g_istore_n (pc := 13) (lv' := [(2, .int (nI 2)), (0, .ref h), (1, .int (nI x))]) hX dX1_holds_13 rfl (by decide) rfl ?_
    refine g_aload_n (pc := 14) hX dX1_holds_14 rfl 1 rfl ?_
    refine g_get (pc := 15) (C := RX1) (T := TX1) (N := 9) (ci := 1) (v := .ref (ad 0)) hX inX1_holds_X1 0 rfl rfl 0 (by decide) flX1_holds_13 rfl rfl dX1_holds_15 ?_
    refine g_iconst (pc := 18) (v := (nI 0)) hX dX1_holds_18 (by decide) ?_
    refine g_aldq (pc := 19) (v := .ref (ad 1)) hX 1 rfl (by omega) (by omega) rfl dX1_holds_19 ?_
    refine g_iload_n (pc := 20) hX dX1_holds_20 rfl 2 rfl ?_
    refine g_ci (pc := 21) hX (wc := [(ad 1, .inr (0, [.ref (ad 2), .int (nI a.length)])), (ad 2, .inl (K.2.1, 17, .inl f0))]) (wr := [(h, .inr (1, [.ref (ad 0), .int (nI pol), .int (nI c), .int (nI g), .long db, .long mb, .int hi, .int mi, .int dv])), (ad 0, .inl (K.2.2.2, 4, .inr (.inr (.inr (.inr (rw4 (ad 1) (ad 3) (ad 5) (ad 7))))))), (ad 3, .inr (0, [.ref (ad 4), .int (nI b.length)])), (ad 4, .inl (K.2.1, 17, .inl f1)), (ad 5, .inr (0, [.ref (ad 6), .int (nI d.length)])), (ad 6, .inl (K.2.1, 17, .inl f2)), (ad 7, .inr (0, [.ref (ad 8), .int (nI e.length)])), (ad 8, .inl (K.2.1, 17, .inl f3))]) (Wd' := fun u => [(h, .inr (1, [.ref (ad 0), .int (nI pol), .int (nI c), .int (nI g), .long db, .long mb, .int hi, .int mi, .int dv])), (ad 0, .inl (K.2.2.2, 4, .inr (.inr (.inr (.inr (rw4 (ad 1) (ad 3) (ad 5) (ad 7))))))), (ad 1, .inr (0, [.ref (ad 2), .int (nI a.length)])), (ad 2, .inl (K.2.1, 17, .inl f0)), (ad 3, .inr (0, [.ref (ad 4), .int (nI b.length)])), (ad 4, .inl (K.2.1, 17, .inl f1)), (ad 5, .inr (0, [.ref (ad 6), .int (nI d.length)])), (ad 6, .inl (K.2.1, 17, .inl f2)), (ad 7, .inr (0, [.ref (ad 8), .int (nI e.length)])), (ad 8, .inl (K.2.1, 17, .inl f3))]) (g_goV (pc := 21) hX (As := [.int (nI x)]) (stk := []) (wc := [(ad 1, .inr (0, [.ref (ad 2), .int (nI a.length)])), (ad 2, .inl (K.2.1, 17, .inl f0))]) (c_X0_has l K (ad 1) (ad 2) a f0 R0 x (by omega)) rfl rfl rfl gX1_holds_X0_has nX0_hasV rfl 0 rfl ⟨(Nat.le_of_ble_eq_true rfl), (Nat.le_of_ble_eq_true rfl)⟩ [2, 3] rfl rfl rfl (Nat.le_of_ble_eq_true rfl) dX1_holds_21 ⟨(Nat.le_of_ble_eq_true rfl), (Nat.le_of_ble_eq_true rfl)⟩) [2, 3] [0, 1, 4, 5, 6, 7, 8, 9] [0, 1, 8, 9, 2, 3, 4, 5, 6, 7] rfl rfl rfl (by decide) rfl (fun _ => rfl) (fun r u h21 => ?_)
    obtain rfl := h21
    refine g_ifB_ne (pc := 24) (tgt := 40) hX dX1_holds_24 (by decide) (fun c24 => ?_) (fun c24 => ?_)
    · refine g_iconst (pc := 40) (v := (nI 1)) hX dX1_holds_40 (by decide) ?_
      refine g_goto (pc := 41) (tgt := 45) hX dX1_holds_41 (by decide) ?_
      refine g_top (y := bI true) (by decide) ?_
      exact hret (v := true) (u := ()) dX1_holds_45 (by rw [show sHolds pol a b d x = true from by unfold sHolds; rw [c24]; first | done | rfl]) rfl
    · refine g_aload_n (pc := 27) hX dX1_holds_27 rfl 1 rfl ?_
      refine g_get (pc := 28) (C := RX1) (T := TX1) (N := 9) (ci := 1) (v := .ref (ad 0)) hX inX1_holds_X1 0 rfl rfl 0 (by decide) flX1_holds_13 rfl rfl dX1_holds_28 ?_
      refine g_iload_n (pc := 31) hX dX1_holds_31 rfl 0 rfl ?_
      refine g_aldq (pc := 32) (v := .ref (ad 5)) hX 1 rfl (by omega) (by omega) rfl dX1_holds_32 ?_
      refine g_iload_n (pc := 33) hX dX1_holds_33 rfl 2 rfl ?_
      refine g_ci (pc := 34) hX (wc := [(ad 5, .inr (0, [.ref (ad 6), .int (nI d.length)])), (ad 6, .inl (K.2.1, 17, .inl f2))]) (wr := [(h, .inr (1, [.ref (ad 0), .int (nI pol), .int (nI c), .int (nI g), .long db, .long mb, .int hi, .int mi, .int dv])), (ad 0, .inl (K.2.2.2, 4, .inr (.inr (.inr (.inr (rw4 (ad 1) (ad 3) (ad 5) (ad 7))))))), (ad 1, .inr (0, [.ref (ad 2), .int (nI a.length)])), (ad 2, .inl (K.2.1, 17, .inl f0)), (ad 3, .inr (0, [.ref (ad 4), .int (nI b.length)])), (ad 4, .inl (K.2.1, 17, .inl f1)), (ad 7, .inr (0, [.ref (ad 8), .int (nI e.length)])), (ad 8, .inl (K.2.1, 17, .inl f3))]) (Wd' := fun u => [(h, .inr (1, [.ref (ad 0), .int (nI pol), .int (nI c), .int (nI g), .long db, .long mb, .int hi, .int mi, .int dv])), (ad 0, .inl (K.2.2.2, 4, .inr (.inr (.inr (.inr (rw4 (ad 1) (ad 3) (ad 5) (ad 7))))))), (ad 1, .inr (0, [.ref (ad 2), .int (nI a.length)])), (ad 2, .inl (K.2.1, 17, .inl f0)), (ad 3, .inr (0, [.ref (ad 4), .int (nI b.length)])), (ad 4, .inl (K.2.1, 17, .inl f1)), (ad 5, .inr (0, [.ref (ad 6), .int (nI d.length)])), (ad 6, .inl (K.2.1, 17, .inl f2)), (ad 7, .inr (0, [.ref (ad 8), .int (nI e.length)])), (ad 8, .inl (K.2.1, 17, .inl f3))]) (g_goV (pc := 34) hX (As := [.int (nI x)]) (stk := []) (wc := [(ad 5, .inr (0, [.ref (ad 6), .int (nI d.length)])), (ad 6, .inl (K.2.1, 17, .inl f2))]) (c_X0_has l K (ad 5) (ad 6) d f2 R2 x (by omega)) rfl rfl rfl gX1_holds_X0_has nX0_hasV rfl 0 rfl ⟨(Nat.le_of_ble_eq_true rfl), (Nat.le_of_ble_eq_true rfl)⟩ [6, 7] rfl rfl rfl (Nat.le_of_ble_eq_true rfl) dX1_holds_34 ⟨(Nat.le_of_ble_eq_true rfl), (Nat.le_of_ble_eq_true rfl)⟩) [6, 7] [0, 1, 2, 3, 4, 5, 8, 9] [0, 1, 2, 3, 4, 5, 8, 9, 6, 7] rfl rfl rfl (by decide) rfl (fun _ => rfl) (fun r u h34 => ?_)
      obtain rfl := h34
      refine g_ifB_eq (pc := 37) (tgt := 44) hX dX1_holds_37 (by decide) (fun c37 => ?_) (fun c37 => ?_)
      · refine g_iconst (pc := 44) (v := (nI 0)) hX dX1_holds_44 (by decide) ?_
        refine g_top (y := bI false) (by decide) ?_
        exact hret (v := false) (u := ()) dX1_holds_45 (by rw [show sHolds pol a b d x = false from by unfold sHolds; rw [c24, if_pos c5, c37]; first | done | rfl]) rfl
      · refine g_iconst (pc := 40) (v := (nI 1)) hX dX1_holds_40 (by decide) ?_
        refine g_goto (pc := 41) (tgt := 45) hX dX1_holds_41 (by decide) ?_
        refine g_top (y := bI true) (by decide) ?_
        exact hret (v := true) (u := ()) dX1_holds_45 (by rw [show sHolds pol a b d x = true from by unfold sHolds; rw [c24, if_pos c5, c37]; first | done | rfl]) rfl
abbrev rmX1_bit : Room := { frames := 0, cells := 0, slots := 0, locals := 0 }
set_option maxHeartbeats 4000000 in
set_option maxRecDepth 100000 in
/-- bit -/
theorem c_X1_bit (l : Launch) (K : gT) (p : Nat) : Cl l yX1_bit wsX1_bit rmX1_bit K [.int (nI p)] [] (fun (r : Int64) (u : Unit) => r = btL p) (fun u => []) 0 0 := by
  refine m_l (cc := cX1_bit) (own := RX1) (maxL := 1) (lv0 := [(0, .int (nI p))]) (by decide) rfl rfl (Nat.le_of_ble_eq_true rfl) rfl ?_
  intro X hX hin hret
  refine g_lconst (pc := 0) (v := 1) hX dX1_bit_0 (by decide) ?_
  refine g_iload_n (pc := 1) hX dX1_bit_1 rfl 0 rfl ?_
  refine g_lshl (pc := 2) (v := 1 <<< (((nI p)).toInt64 &&& 63)) hX dX1_bit_2 rfl ?_
  exact hret (u := ()) dX1_bit_3 rfl rfl
abbrev rmX1_isDirty : Room := { frames := 1, cells := 0, slots := 0, locals := 20 }
theorem flX1_isDirty_31 : Cond.fieldLink RX1 31 "TwoTierCache$Tier" "dirtyPages" "J" ∈ wsX1_isDirty := by decide +kernel
theorem inX1_isDirty_X1 : ∀ w ∈ u_ws RX1 TX1 9, w ∈ wsX1_isDirty := by decide +kernel
theorem nX1_bitS : yX1_bit.cls ≠ "java/lang/invoke/MethodHandle" ∧ yX1_bit.cls ≠ "java/lang/invoke/VarHandle" ∧ (parseMethodDescriptor yX1_bit.desc).map (fun d => d.parameters.length) = some 1 := by decide +kernel
set_option maxHeartbeats 4000000 in
set_option maxRecDepth 100000 in
/-- X1_isDirty -/
theorem c_X1_isDirty (l : Launch) (K : gT) (h : Nat) (ad : Nat → Nat) (pol c g : Nat) (db mb : Int64) (hi mi dv : Int32) (a b d e : List Nat) (f0 f1 f2 f3 : Nat → Int32) (D : Nat → Bool) (hD : bitsR db D) (p : Nat) (hp : p < 64) : Ci l yX1_isDirty wsX1_isDirty rmX1_isDirty K [.ref h, .int (nI p)] (tW K h ad pol c g db mb hi mi dv a b d e f0 f1 f2 f3) (fun (r : Int32) (u : Unit) => r = bI (D p)) (fun u => tW K h ad pol c g db mb hi mi dv a b d e f0 f1 f2 f3) 0 0 := by
  refine m_z (cc := cX1_isDirty) (own := RX1) (maxL := 2) (lv0 := [(0, .ref h), (1, .int (nI p))]) (by decide) rfl rfl (Nat.le_of_ble_eq_true rfl) rfl ?_
  intro X hX hin hret
  refine g_ws (ws' := [(h, .inr (1, [.ref (ad 0), .int (nI pol), .int (nI c), .int (nI g), .long db, .long mb, .int hi, .int mi, .int dv])), (ad 0, .inl (K.2.2.2, 4, .inr (.inr (.inr (.inr (rw4 (ad 1) (ad 3) (ad 5) (ad 7))))))), (ad 1, .inr (0, [.ref (ad 2), .int (nI a.length)])), (ad 2, .inl (K.2.1, 17, .inl f0)), (ad 3, .inr (0, [.ref (ad 4), .int (nI b.length)])), (ad 4, .inl (K.2.1, 17, .inl f1)), (ad 5, .inr (0, [.ref (ad 6), .int (nI d.length)])), (ad 6, .inl (K.2.1, 17, .inl f2)), (ad 7, .inr (0, [.ref (ad 8), .int (nI e.length)])), (ad 8, .inl (K.2.1, 17, .inl f3))]) rfl ?_
  refine g_aload_n (pc := 0) hX dX1_isDirty_0 rfl 0 rfl ?_
  refine g_get (pc := 1) (C := RX1) (T := TX1) (N := 9) (ci := 1) (v := .long db) hX inX1_isDirty_X1 0 rfl rfl 4 (by decide) flX1_isDirty_31 rfl rfl dX1_isDirty_1 ?_
  refine g_iload_n (pc := 4) hX dX1_isDirty_4 rfl 1 rfl ?_
  refine g_cl (pc := 5) hX (wc := []) (wr := [(h, .inr (1, [.ref (ad 0), .int (nI pol), .int (nI c), .int (nI g), .long db, .long mb, .int hi, .int mi, .int dv])), (ad 0, .inl (K.2.2.2, 4, .inr (.inr (.inr (.inr (rw4 (ad 1) (ad 3) (ad 5) (ad 7))))))), (ad 1, .inr (0, [.ref (ad 2), .int (nI a.length)])), (ad 2, .inl (K.2.1, 17, .inl f0)), (ad 3, .inr (0, [.ref (ad 4), .int (nI b.length)])), (ad 4, .inl (K.2.1, 17, .inl f1)), (ad 5, .inr (0, [.ref (ad 6), .int (nI d.length)])), (ad 6, .inl (K.2.1, 17, .inl f2)), (ad 7, .inr (0, [.ref (ad 8), .int (nI e.length)])), (ad 8, .inl (K.2.1, 17, .inl f3))]) (Wd' := fun u => [(h, .inr (1, [.ref (ad 0), .int (nI pol), .int (nI c), .int (nI g), .long db, .long mb, .int hi, .int mi, .int dv])), (ad 0, .inl (K.2.2.2, 4, .inr (.inr (.inr (.inr (rw4 (ad 1) (ad 3) (ad 5) (ad 7))))))), (ad 1, .inr (0, [.ref (ad 2), .int (nI a.length)])), (ad 2, .inl (K.2.1, 17, .inl f0)), (ad 3, .inr (0, [.ref (ad 4), .int (nI b.length)])), (ad 4, .inl (K.2.1, 17, .inl f1)), (ad 5, .inr (0, [.ref (ad 6), .int (nI d.length)])), (ad 6, .inl (K.2.1, 17, .inl f2)), (ad 7, .inr (0, [.ref (ad 8), .int (nI e.length)])), (ad 8, .inl (K.2.1, 17, .inl f3))]) (g_goS (pc := 5) hX (As := [.int (nI p)]) (stk := [.long db]) (wc := []) (c_X1_bit l K p) rfl rfl rfl gX1_isDirty_X1_bit nX1_bitS ⟨(Nat.le_of_ble_eq_true rfl), (Nat.le_of_ble_eq_true rfl)⟩ [] rfl rfl rfl (Nat.le_of_ble_eq_true rfl) dX1_isDirty_5 ⟨(Nat.le_of_ble_eq_true rfl), (Nat.le_of_ble_eq_true rfl)⟩) [] [0, 1, 2, 3, 4, 5, 6, 7, 8, 9] [0, 1, 2, 3, 4, 5, 6, 7, 8, 9] rfl rfl rfl (by decide) rfl (fun _ => rfl) (fun r u h5 => ?_)
  obtain rfl := h5
  refine g_land (pc := 8) (z := db &&& (btL p)) hX dX1_isDirty_8 rfl ?_
  refine g_lconst (pc := 9) (v := 0) hX dX1_isDirty_9 (by decide) ?_
  refine g_lcmp (pc := 10) hX dX1_isDirty_10 ?_
  refine g_if_eq (pc := 11) (tgt := 18) hX dX1_isDirty_11 (by decide) (fun c11 => ?_) (fun c11 => ?_)
  · refine g_iconst (pc := 18) (v := (nI 0)) hX dX1_isDirty_18 (by decide) ?_
    refine g_top (y := bI false) (by decide) ?_
    exact hret (v := false) (u := ()) dX1_isDirty_19 (by rw [show D p = false from ((bits_and hD hp).mp ((lgc_eq _ _).mp c11))]) rfl
  · refine g_iconst (pc := 14) (v := (nI 1)) hX dX1_isDirty_14 (by decide) ?_
    refine g_goto (pc := 15) (tgt := 19) hX dX1_isDirty_15 (by decide) ?_
    refine g_top (y := bI true) (by decide) ?_
    exact hret (v := true) (u := ()) dX1_isDirty_19 (by rw [show D p = true from (by cases hq : D p with | true => rfl | false => exact absurd ((lgc_eq _ _).mpr ((bits_and hD hp).mpr hq)) c11)]) rfl
abbrev rmX1_isMarked : Room := { frames := 1, cells := 0, slots := 0, locals := 20 }
theorem flX1_isMarked_35 : Cond.fieldLink RX1 35 "TwoTierCache$Tier" "markedPages" "J" ∈ wsX1_isMarked := by decide +kernel
theorem inX1_isMarked_X1 : ∀ w ∈ u_ws RX1 TX1 9, w ∈ wsX1_isMarked := by decide +kernel
set_option maxHeartbeats 4000000 in
set_option maxRecDepth 100000 in
/-- X1_isMarked -/
theorem c_X1_isMarked (l : Launch) (K : gT) (h : Nat) (ad : Nat → Nat) (pol c g : Nat) (db mb : Int64) (hi mi dv : Int32) (a b d e : List Nat) (f0 f1 f2 f3 : Nat → Int32) (M : Nat → Bool) (hM : bitsR mb M) (p : Nat) (hp : p < 64) : Ci l yX1_isMarked wsX1_isMarked rmX1_isMarked K [.ref h, .int (nI p)] (tW K h ad pol c g db mb hi mi dv a b d e f0 f1 f2 f3) (fun (r : Int32) (u : Unit) => r = bI (M p)) (fun u => tW K h ad pol c g db mb hi mi dv a b d e f0 f1 f2 f3) 0 0 := by
  refine m_z (cc := cX1_isMarked) (own := RX1) (maxL := 2) (lv0 := [(0, .ref h), (1, .int (nI p))]) (by decide) rfl rfl (Nat.le_of_ble_eq_true rfl) rfl ?_
  intro X hX hin hret
  refine g_ws (ws' := [(h, .inr (1, [.ref (ad 0), .int (nI pol), .int (nI c), .int (nI g), .long db, .long mb, .int hi, .int mi, .int dv])), (ad 0, .inl (K.2.2.2, 4, .inr (.inr (.inr (.inr (rw4 (ad 1) (ad 3) (ad 5) (ad 7))))))), (ad 1, .inr (0, [.ref (ad 2), .int (nI a.length)])), (ad 2, .inl (K.2.1, 17, .inl f0)), (ad 3, .inr (0, [.ref (ad 4), .int (nI b.length)])), (ad 4, .inl (K.2.1, 17, .inl f1)), (ad 5, .inr (0, [.ref (ad 6), .int (nI d.length)])), (ad 6, .inl (K.2.1, 17, .inl f2)), (ad 7, .inr (0, [.ref (ad 8), .int (nI e.length)])), (ad 8, .inl (K.2.1, 17, .inl f3))]) rfl ?_
  refine g_aload_n (pc := 0) hX dX1_isMarked_0 rfl 0 rfl ?_
  refine g_get (pc := 1) (C := RX1) (T := TX1) (N := 9) (ci := 1) (v := .long mb) hX inX1_isMarked_X1 0 rfl rfl 5 (by decide) flX1_isMarked_35 rfl rfl dX1_isMarked_1 ?_
  refine g_iload_n (pc := 4) hX dX1_isMarked_4 rfl 1 rfl ?_
  refine g_cl (pc := 5) hX (wc := []) (wr := [(h, .inr (1, [.ref (ad 0), .int (nI pol), .int (nI c), .int (nI g), .long db, .long mb, .int hi, .int mi, .int dv])), (ad 0, .inl (K.2.2.2, 4, .inr (.inr (.inr (.inr (rw4 (ad 1) (ad 3) (ad 5) (ad 7))))))), (ad 1, .inr (0, [.ref (ad 2), .int (nI a.length)])), (ad 2, .inl (K.2.1, 17, .inl f0)), (ad 3, .inr (0, [.ref (ad 4), .int (nI b.length)])), (ad 4, .inl (K.2.1, 17, .inl f1)), (ad 5, .inr (0, [.ref (ad 6), .int (nI d.length)])), (ad 6, .inl (K.2.1, 17, .inl f2)), (ad 7, .inr (0, [.ref (ad 8), .int (nI e.length)])), (ad 8, .inl (K.2.1, 17, .inl f3))]) (Wd' := fun u => [(h, .inr (1, [.ref (ad 0), .int (nI pol), .int (nI c), .int (nI g), .long db, .long mb, .int hi, .int mi, .int dv])), (ad 0, .inl (K.2.2.2, 4, .inr (.inr (.inr (.inr (rw4 (ad 1) (ad 3) (ad 5) (ad 7))))))), (ad 1, .inr (0, [.ref (ad 2), .int (nI a.length)])), (ad 2, .inl (K.2.1, 17, .inl f0)), (ad 3, .inr (0, [.ref (ad 4), .int (nI b.length)])), (ad 4, .inl (K.2.1, 17, .inl f1)), (ad 5, .inr (0, [.ref (ad 6), .int (nI d.length)])), (ad 6, .inl (K.2.1, 17, .inl f2)), (ad 7, .inr (0, [.ref (ad 8), .int (nI e.length)])), (ad 8, .inl (K.2.1, 17, .inl f3))]) (g_goS (pc := 5) hX (As := [.int (nI p)]) (stk := [.long mb]) (wc := []) (c_X1_bit l K p) rfl rfl rfl gX1_isMarked_X1_bit nX1_bitS ⟨(Nat.le_of_ble_eq_true rfl), (Nat.le_of_ble_eq_true rfl)⟩ [] rfl rfl rfl (Nat.le_of_ble_eq_true rfl) dX1_isMarked_5 ⟨(Nat.le_of_ble_eq_true rfl), (Nat.le_of_ble_eq_true rfl)⟩) [] [0, 1, 2, 3, 4, 5, 6, 7, 8, 9] [0, 1, 2, 3, 4, 5, 6, 7, 8, 9] rfl rfl rfl (by decide) rfl (fun _ => rfl) (fun r u h5 => ?_)
  obtain rfl := h5
  refine g_land (pc := 8) (z := mb &&& (btL p)) hX dX1_isMarked_8 rfl ?_
  refine g_lconst (pc := 9) (v := 0) hX dX1_isMarked_9 (by decide) ?_
  refine g_lcmp (pc := 10) hX dX1_isMarked_10 ?_
  refine g_if_eq (pc := 11) (tgt := 18) hX dX1_isMarked_11 (by decide) (fun c11 => ?_) (fun c11 => ?_)
  · refine g_iconst (pc := 18) (v := (nI 0)) hX dX1_isMarked_18 (by decide) ?_
    refine g_top (y := bI false) (by decide) ?_
    exact hret (v := false) (u := ()) dX1_isMarked_19 (by rw [show M p = false from ((bits_and hM hp).mp ((lgc_eq _ _).mp c11))]) rfl
  · refine g_iconst (pc := 14) (v := (nI 1)) hX dX1_isMarked_14 (by decide) ?_
    refine g_goto (pc := 15) (tgt := 19) hX dX1_isMarked_15 (by decide) ?_
    refine g_top (y := bI true) (by decide) ?_
    exact hret (v := true) (u := ()) dX1_isMarked_19 (by rw [show M p = true from (by cases hq : M p with | true => rfl | false => exact absurd ((lgc_eq _ _).mpr ((bits_and hM hp).mpr hq)) c11)]) rfl
abbrev rmX1_pageAt : Room := { frames := 1, cells := 0, slots := 0, locals := 21 }
theorem flX1_pageAt_13 : Cond.fieldLink RX1 13 "TwoTierCache$Tier" "rows" "[LTwoTierCache$PageRow;" ∈ wsX1_pageAt := by decide +kernel
theorem inX1_pageAt_X1 : ∀ w ∈ u_ws RX1 TX1 9, w ∈ wsX1_pageAt := by decide +kernel
set_option maxHeartbeats 4000000 in
set_option maxRecDepth 100000 in
/-- pageAt -/
theorem c_X1_pageAt (l : Launch) (K : gT) (h : Nat) (ad : Nat → Nat) (pol c g : Nat) (db mb : Int64) (hi mi dv : Int32) (a b d e : List Nat) (f0 f1 f2 f3 : Nat → Int32) (R0 : rowR f0 a) (R1 : rowR f1 b) (R2 : rowR f2 d) (R3 : rowR f3 e) (rw0 i : Int32) : Ci l yX1_pageAt wsX1_pageAt rmX1_pageAt K [.ref h, .int rw0, .int i] (tW K h ad pol c g db mb hi mi dv a b d e f0 f1 f2 f3) (fun (r : Int32) (u : Unit) => r = sRow a b d e rw0 i) (fun u => tW K h ad pol c g db mb hi mi dv a b d e f0 f1 f2 f3) 0 0 := by
  refine m_i (cc := cX1_pageAt) (own := RX1) (maxL := 3) (lv0 := [(0, .ref h), (1, .int rw0), (2, .int i)]) (by decide) rfl rfl (Nat.le_of_ble_eq_true rfl) rfl ?_
  intro X hX hin hret
  refine g_ws (ws' := [(h, .inr (1, [.ref (ad 0), .int (nI pol), .int (nI c), .int (nI g), .long db, .long mb, .int hi, .int mi, .int dv])), (ad 0, .inl (K.2.2.2, 4, .inr (.inr (.inr (.inr (rw4 (ad 1) (ad 3) (ad 5) (ad 7))))))), (ad 1, .inr (0, [.ref (ad 2), .int (nI a.length)])), (ad 2, .inl (K.2.1, 17, .inl f0)), (ad 3, .inr (0, [.ref (ad 4), .int (nI b.length)])), (ad 4, .inl (K.2.1, 17, .inl f1)), (ad 5, .inr (0, [.ref (ad 6), .int (nI d.length)])), (ad 6, .inl (K.2.1, 17, .inl f2)), (ad 7, .inr (0, [.ref (ad 8), .int (nI e.length)])), (ad 8, .inl (K.2.1, 17, .inl f3))]) rfl ?_
  refine g_iload_n (pc := 0) hX dX1_pageAt_0 rfl 1 rfl ?_
  refine g_if_lt (pc := 1) (tgt := 22) hX dX1_pageAt_1 (by decide) (fun c1 => ?_) (fun c1 => ?_)
  · refine g_iconst (pc := 22) (v := (-1)) hX dX1_pageAt_22 (by decide) ?_
    exact hret (u := ()) dX1_pageAt_23 (by unfold sRow; rw [if_neg (fun q => absurd c1 (by rw [q]; decide)), if_neg (fun q => absurd c1 (by rw [q]; decide)), if_neg (fun q => absurd c1 (by rw [q]; decide)), if_neg (fun q => absurd c1 (by rw [q]; decide))]) rfl
  · refine g_iload_n (pc := 4) hX dX1_pageAt_4 rfl 1 rfl ?_
    refine g_iconst (pc := 5) (v := (nI 4)) hX dX1_pageAt_5 (by decide) ?_
    refine g_icmp_ge (pc := 6) (tgt := 22) hX dX1_pageAt_6 (by decide) (fun c6 => ?_) (fun c6 => ?_)
    · refine g_iconst (pc := 22) (v := (-1)) hX dX1_pageAt_22 (by decide) ?_
      exact hret (u := ()) dX1_pageAt_23 (by unfold sRow; rw [if_neg (fun q => absurd c6 (by rw [q]; decide)), if_neg (fun q => absurd c6 (by rw [q]; decide)), if_neg (fun q => absurd c6 (by rw [q]; decide)), if_neg (fun q => absurd c6 (by rw [q]; decide))]) rfl
    · obtain ⟨j, hj, rfl⟩ : ∃ j : Nat, j < 4 ∧ rw0 = nI j := by
        rcases pk_ix rw0 (n := 4) (by omega) with h | h | h
        · exact absurd h c1
        · exact absurd h c6
        · exact h
      rcases (show j = 0 ∨ j = 1 ∨ j = 2 ∨ j = 3 by omega) with rfl | rfl | rfl | rfl
      · refine g_aload_n (pc := 9) hX dX1_pageAt_9 rfl 0 rfl ?_
        refine g_get (pc := 10) (C := RX1) (T := TX1) (N := 9) (ci := 1) (v := .ref (ad 0)) hX inX1_pageAt_X1 0 rfl rfl 0 (by decide) flX1_pageAt_13 rfl rfl dX1_pageAt_10 ?_
        refine g_iload_n (pc := 13) hX dX1_pageAt_13 rfl 1 rfl ?_
        refine g_aldq (pc := 14) (v := .ref (ad 1)) hX 1 rfl (by omega) (by omega) rfl dX1_pageAt_14 ?_
        refine g_iload_n (pc := 15) hX dX1_pageAt_15 rfl 2 rfl ?_
        refine g_ci (pc := 16) hX (wc := [(ad 1, .inr (0, [.ref (ad 2), .int (nI a.length)])), (ad 2, .inl (K.2.1, 17, .inl f0))]) (wr := [(h, .inr (1, [.ref (ad 0), .int (nI pol), .int (nI c), .int (nI g), .long db, .long mb, .int hi, .int mi, .int dv])), (ad 0, .inl (K.2.2.2, 4, .inr (.inr (.inr (.inr (rw4 (ad 1) (ad 3) (ad 5) (ad 7))))))), (ad 3, .inr (0, [.ref (ad 4), .int (nI b.length)])), (ad 4, .inl (K.2.1, 17, .inl f1)), (ad 5, .inr (0, [.ref (ad 6), .int (nI d.length)])), (ad 6, .inl (K.2.1, 17, .inl f2)), (ad 7, .inr (0, [.ref (ad 8), .int (nI e.length)])), (ad 8, .inl (K.2.1, 17, .inl f3))]) (Wd' := fun u => [(h, .inr (1, [.ref (ad 0), .int (nI pol), .int (nI c), .int (nI g), .long db, .long mb, .int hi, .int mi, .int dv])), (ad 0, .inl (K.2.2.2, 4, .inr (.inr (.inr (.inr (rw4 (ad 1) (ad 3) (ad 5) (ad 7))))))), (ad 1, .inr (0, [.ref (ad 2), .int (nI a.length)])), (ad 2, .inl (K.2.1, 17, .inl f0)), (ad 3, .inr (0, [.ref (ad 4), .int (nI b.length)])), (ad 4, .inl (K.2.1, 17, .inl f1)), (ad 5, .inr (0, [.ref (ad 6), .int (nI d.length)])), (ad 6, .inl (K.2.1, 17, .inl f2)), (ad 7, .inr (0, [.ref (ad 8), .int (nI e.length)])), (ad 8, .inl (K.2.1, 17, .inl f3))]) (g_goV (pc := 16) hX (As := [.int i]) (stk := []) (wc := [(ad 1, .inr (0, [.ref (ad 2), .int (nI a.length)])), (ad 2, .inl (K.2.1, 17, .inl f0))]) (c_X0_at l K (ad 1) (ad 2) a f0 R0 i) rfl rfl rfl gX1_pageAt_X0_at nX0_atV rfl 0 rfl ⟨(Nat.le_of_ble_eq_true rfl), (Nat.le_of_ble_eq_true rfl)⟩ [2, 3] rfl rfl rfl (Nat.le_of_ble_eq_true rfl) dX1_pageAt_16 ⟨(Nat.le_of_ble_eq_true rfl), (Nat.le_of_ble_eq_true rfl)⟩) [2, 3] [0, 1, 4, 5, 6, 7, 8, 9] [0, 1, 8, 9, 2, 3, 4, 5, 6, 7] rfl rfl rfl (by decide) rfl (fun _ => rfl) (fun r u h16 => ?_)
        obtain rfl := h16
        refine g_goto (pc := 19) (tgt := 23) hX dX1_pageAt_19 (by decide) ?_
        exact hret (u := ()) dX1_pageAt_23 (by unfold sRow; first | rfl | (rw [if_neg (by decide)]; first | rfl | (rw [if_neg (by decide)]; first | rfl | (rw [if_neg (by decide)]; rfl)))) rfl
      · refine g_aload_n (pc := 9) hX dX1_pageAt_9 rfl 0 rfl ?_
        refine g_get (pc := 10) (C := RX1) (T := TX1) (N := 9) (ci := 1) (v := .ref (ad 0)) hX inX1_pageAt_X1 0 rfl rfl 0 (by decide) flX1_pageAt_13 rfl rfl dX1_pageAt_10 ?_
        refine g_iload_n (pc := 13) hX dX1_pageAt_13 rfl 1 rfl ?_
        refine g_aldq (pc := 14) (v := .ref (ad 3)) hX 1 rfl (by omega) (by omega) rfl dX1_pageAt_14 ?_
        refine g_iload_n (pc := 15) hX dX1_pageAt_15 rfl 2 rfl ?_
        refine g_ci (pc := 16) hX (wc := [(ad 3, .inr (0, [.ref (ad 4), .int (nI b.length)])), (ad 4, .inl (K.2.1, 17, .inl f1))]) (wr := [(h, .inr (1, [.ref (ad 0), .int (nI pol), .int (nI c), .int (nI g), .long db, .long mb, .int hi, .int mi, .int dv])), (ad 0, .inl (K.2.2.2, 4, .inr (.inr (.inr (.inr (rw4 (ad 1) (ad 3) (ad 5) (ad 7))))))), (ad 1, .inr (0, [.ref (ad 2), .int (nI a.length)])), (ad 2, .inl (K.2.1, 17, .inl f0)), (ad 5, .inr (0, [.ref (ad 6), .int (nI d.length)])), (ad 6, .inl (K.2.1, 17, .inl f2)), (ad 7, .inr (0, [.ref (ad 8), .int (nI e.length)])), (ad 8, .inl (K.2.1, 17, .inl f3))]) (Wd' := fun u => [(h, .inr (1, [.ref (ad 0), .int (nI pol), .int (nI c), .int (nI g), .long db, .long mb, .int hi, .int mi, .int dv])), (ad 0, .inl (K.2.2.2, 4, .inr (.inr (.inr (.inr (rw4 (ad 1) (ad 3) (ad 5) (ad 7))))))), (ad 1, .inr (0, [.ref (ad 2), .int (nI a.length)])), (ad 2, .inl (K.2.1, 17, .inl f0)), (ad 3, .inr (0, [.ref (ad 4), .int (nI b.length)])), (ad 4, .inl (K.2.1, 17, .inl f1)), (ad 5, .inr (0, [.ref (ad 6), .int (nI d.length)])), (ad 6, .inl (K.2.1, 17, .inl f2)), (ad 7, .inr (0, [.ref (ad 8), .int (nI e.length)])), (ad 8, .inl (K.2.1, 17, .inl f3))]) (g_goV (pc := 16) hX (As := [.int i]) (stk := []) (wc := [(ad 3, .inr (0, [.ref (ad 4), .int (nI b.length)])), (ad 4, .inl (K.2.1, 17, .inl f1))]) (c_X0_at l K (ad 3) (ad 4) b f1 R1 i) rfl rfl rfl gX1_pageAt_X0_at nX0_atV rfl 0 rfl ⟨(Nat.le_of_ble_eq_true rfl), (Nat.le_of_ble_eq_true rfl)⟩ [4, 5] rfl rfl rfl (Nat.le_of_ble_eq_true rfl) dX1_pageAt_16 ⟨(Nat.le_of_ble_eq_true rfl), (Nat.le_of_ble_eq_true rfl)⟩) [4, 5] [0, 1, 2, 3, 6, 7, 8, 9] [0, 1, 2, 3, 8, 9, 4, 5, 6, 7] rfl rfl rfl (by decide) rfl (fun _ => rfl) (fun r u h16 => ?_)
        obtain rfl := h16
        refine g_goto (pc := 19) (tgt := 23) hX dX1_pageAt_19 (by decide) ?_
        exact hret (u := ()) dX1_pageAt_23 (by unfold sRow; first | rfl | (rw [if_neg (by decide)]; first | rfl | (rw [if_neg (by decide)]; first | rfl | (rw [if_neg (by decide)]; rfl)))) rfl
      · refine g_aload_n (pc := 9) hX dX1_pageAt_9 rfl 0 rfl ?_
        refine g_get (pc := 10) (C := RX1) (T := TX1) (N := 9) (ci := 1) (v := .ref (ad 0)) hX inX1_pageAt_X1 0 rfl rfl 0 (by decide) flX1_pageAt_13 rfl rfl dX1_pageAt_10 ?_
        refine g_iload_n (pc := 13) hX dX1_pageAt_13 rfl 1 rfl ?_
        refine g_aldq (pc := 14) (v := .ref (ad 5)) hX 1 rfl (by omega) (by omega) rfl dX1_pageAt_14 ?_
        refine g_iload_n (pc := 15) hX dX1_pageAt_15 rfl 2 rfl ?_
        refine g_ci (pc := 16) hX (wc := [(ad 5, .inr (0, [.ref (ad 6), .int (nI d.length)])), (ad 6, .inl (K.2.1, 17, .inl f2))]) (wr := [(h, .inr (1, [.ref (ad 0), .int (nI pol), .int (nI c), .int (nI g), .long db, .long mb, .int hi, .int mi, .int dv])), (ad 0, .inl (K.2.2.2, 4, .inr (.inr (.inr (.inr (rw4 (ad 1) (ad 3) (ad 5) (ad 7))))))), (ad 1, .inr (0, [.ref (ad 2), .int (nI a.length)])), (ad 2, .inl (K.2.1, 17, .inl f0)), (ad 3, .inr (0, [.ref (ad 4), .int (nI b.length)])), (ad 4, .inl (K.2.1, 17, .inl f1)), (ad 7, .inr (0, [.ref (ad 8), .int (nI e.length)])), (ad 8, .inl (K.2.1, 17, .inl f3))]) (Wd' := fun u => [(h, .inr (1, [.ref (ad 0), .int (nI pol), .int (nI c), .int (nI g), .long db, .long mb, .int hi, .int mi, .int dv])), (ad 0, .inl (K.2.2.2, 4, .inr (.inr (.inr (.inr (rw4 (ad 1) (ad 3) (ad 5) (ad 7))))))), (ad 1, .inr (0, [.ref (ad 2), .int (nI a.length)])), (ad 2, .inl (K.2.1, 17, .inl f0)), (ad 3, .inr (0, [.ref (ad 4), .int (nI b.length)])), (ad 4, .inl (K.2.1, 17, .inl f1)), (ad 5, .inr (0, [.ref (ad 6), .int (nI d.length)])), (ad 6, .inl (K.2.1, 17, .inl f2)), (ad 7, .inr (0, [.ref (ad 8), .int (nI e.length)])), (ad 8, .inl (K.2.1, 17, .inl f3))]) (g_goV (pc := 16) hX (As := [.int i]) (stk := []) (wc := [(ad 5, .inr (0, [.ref (ad 6), .int (nI d.length)])), (ad 6, .inl (K.2.1, 17, .inl f2))]) (c_X0_at l K (ad 5) (ad 6) d f2 R2 i) rfl rfl rfl gX1_pageAt_X0_at nX0_atV rfl 0 rfl ⟨(Nat.le_of_ble_eq_true rfl), (Nat.le_of_ble_eq_true rfl)⟩ [6, 7] rfl rfl rfl (Nat.le_of_ble_eq_true rfl) dX1_pageAt_16 ⟨(Nat.le_of_ble_eq_true rfl), (Nat.le_of_ble_eq_true rfl)⟩) [6, 7] [0, 1, 2, 3, 4, 5, 8, 9] [0, 1, 2, 3, 4, 5, 8, 9, 6, 7] rfl rfl rfl (by decide) rfl (fun _ => rfl) (fun r u h16 => ?_)
        obtain rfl := h16
        refine g_goto (pc := 19) (tgt := 23) hX dX1_pageAt_19 (by decide) ?_
        exact hret (u := ()) dX1_pageAt_23 (by unfold sRow; first | rfl | (rw [if_neg (by decide)]; first | rfl | (rw [if_neg (by decide)]; first | rfl | (rw [if_neg (by decide)]; rfl)))) rfl
      · refine g_aload_n (pc := 9) hX dX1_pageAt_9 rfl 0 rfl ?_
        refine g_get (pc := 10) (C := RX1) (T := TX1) (N := 9) (ci := 1) (v := .ref (ad 0)) hX inX1_pageAt_X1 0 rfl rfl 0 (by decide) flX1_pageAt_13 rfl rfl dX1_pageAt_10 ?_
        refine g_iload_n (pc := 13) hX dX1_pageAt_13 rfl 1 rfl ?_
        refine g_aldq (pc := 14) (v := .ref (ad 7)) hX 1 rfl (by omega) (by omega) rfl dX1_pageAt_14 ?_
        refine g_iload_n (pc := 15) hX dX1_pageAt_15 rfl 2 rfl ?_
        refine g_ci (pc := 16) hX (wc := [(ad 7, .inr (0, [.ref (ad 8), .int (nI e.length)])), (ad 8, .inl (K.2.1, 17, .inl f3))]) (wr := [(h, .inr (1, [.ref (ad 0), .int (nI pol), .int (nI c), .int (nI g), .long db, .long mb, .int hi, .int mi, .int dv])), (ad 0, .inl (K.2.2.2, 4, .inr (.inr (.inr (.inr (rw4 (ad 1) (ad 3) (ad 5) (ad 7))))))), (ad 1, .inr (0, [.ref (ad 2), .int (nI a.length)])), (ad 2, .inl (K.2.1, 17, .inl f0)), (ad 3, .inr (0, [.ref (ad 4), .int (nI b.length)])), (ad 4, .inl (K.2.1, 17, .inl f1)), (ad 5, .inr (0, [.ref (ad 6), .int (nI d.length)])), (ad 6, .inl (K.2.1, 17, .inl f2))]) (Wd' := fun u => [(h, .inr (1, [.ref (ad 0), .int (nI pol), .int (nI c), .int (nI g), .long db, .long mb, .int hi, .int mi, .int dv])), (ad 0, .inl (K.2.2.2, 4, .inr (.inr (.inr (.inr (rw4 (ad 1) (ad 3) (ad 5) (ad 7))))))), (ad 1, .inr (0, [.ref (ad 2), .int (nI a.length)])), (ad 2, .inl (K.2.1, 17, .inl f0)), (ad 3, .inr (0, [.ref (ad 4), .int (nI b.length)])), (ad 4, .inl (K.2.1, 17, .inl f1)), (ad 5, .inr (0, [.ref (ad 6), .int (nI d.length)])), (ad 6, .inl (K.2.1, 17, .inl f2)), (ad 7, .inr (0, [.ref (ad 8), .int (nI e.length)])), (ad 8, .inl (K.2.1, 17, .inl f3))]) (g_goV (pc := 16) hX (As := [.int i]) (stk := []) (wc := [(ad 7, .inr (0, [.ref (ad 8), .int (nI e.length)])), (ad 8, .inl (K.2.1, 17, .inl f3))]) (c_X0_at l K (ad 7) (ad 8) e f3 R3 i) rfl rfl rfl gX1_pageAt_X0_at nX0_atV rfl 0 rfl ⟨(Nat.le_of_ble_eq_true rfl), (Nat.le_of_ble_eq_true rfl)⟩ [8, 9] rfl rfl rfl (Nat.le_of_ble_eq_true rfl) dX1_pageAt_16 ⟨(Nat.le_of_ble_eq_true rfl), (Nat.le_of_ble_eq_true rfl)⟩) [8, 9] [0, 1, 2, 3, 4, 5, 6, 7] [0, 1, 2, 3, 4, 5, 6, 7, 8, 9] rfl rfl rfl (by decide) rfl (fun _ => rfl) (fun r u h16 => ?_)
        obtain rfl := h16
        refine g_goto (pc := 19) (tgt := 23) hX dX1_pageAt_19 (by decide) ?_
        exact hret (u := ()) dX1_pageAt_23 (by unfold sRow; first | rfl | (rw [if_neg (by decide)]; first | rfl | (rw [if_neg (by decide)]; first | rfl | (rw [if_neg (by decide)]; rfl)))) rfl
abbrev rmX1_currentGoal : Room := { frames := 0, cells := 0, slots := 0, locals := 0 }
theorem flX1_currentGoal_18 : Cond.fieldLink RX1 18 "TwoTierCache$Tier" "policy" "I" ∈ wsX1_currentGoal := by decide +kernel
theorem inX1_currentGoal_X1 : ∀ w ∈ u_ws RX1 TX1 9, w ∈ wsX1_currentGoal := by decide +kernel
theorem flX1_currentGoal_28 : Cond.fieldLink RX1 28 "TwoTierCache$Tier" "goal" "I" ∈ wsX1_currentGoal := by decide +kernel
set_option maxHeartbeats 4000000 in
set_option maxRecDepth 100000 in
/-- currentGoal -/
theorem c_X1_currentGoal (l : Launch) (K : gT) (h : Nat) (ad : Nat → Nat) (pol c g : Nat) (db mb : Int64) (hi mi dv : Int32) (a b d e : List Nat) (f0 f1 f2 f3 : Nat → Int32) (hpol : pol < 4) : Ci l yX1_currentGoal wsX1_currentGoal rmX1_currentGoal K [.ref h] (tW K h ad pol c g db mb hi mi dv a b d e f0 f1 f2 f3) (fun (r : Int32) (u : Unit) => r = sGoal pol g) (fun u => tW K h ad pol c g db mb hi mi dv a b d e f0 f1 f2 f3) 0 0 := by
  refine m_i (cc := cX1_currentGoal) (own := RX1) (maxL := 1) (lv0 := [(0, .ref h)]) (by decide) rfl rfl (Nat.le_of_ble_eq_true rfl) rfl ?_
  intro X hX hin hret
  refine g_ws (ws' := [(h, .inr (1, [.ref (ad 0), .int (nI pol), .int (nI c), .int (nI g), .long db, .long mb, .int hi, .int mi, .int dv])), (ad 0, .inl (K.2.2.2, 4, .inr (.inr (.inr (.inr (rw4 (ad 1) (ad 3) (ad 5) (ad 7))))))), (ad 1, .inr (0, [.ref (ad 2), .int (nI a.length)])), (ad 2, .inl (K.2.1, 17, .inl f0)), (ad 3, .inr (0, [.ref (ad 4), .int (nI b.length)])), (ad 4, .inl (K.2.1, 17, .inl f1)), (ad 5, .inr (0, [.ref (ad 6), .int (nI d.length)])), (ad 6, .inl (K.2.1, 17, .inl f2)), (ad 7, .inr (0, [.ref (ad 8), .int (nI e.length)])), (ad 8, .inl (K.2.1, 17, .inl f3))]) rfl ?_
  refine g_aload_n (pc := 0) hX dX1_currentGoal_0 rfl 0 rfl ?_
  refine g_get (pc := 1) (C := RX1) (T := TX1) (N := 9) (ci := 1) (v := .int (nI pol)) hX inX1_currentGoal_X1 0 rfl rfl 1 (by decide) flX1_currentGoal_18 rfl rfl dX1_currentGoal_1 ?_
  refine g_iconst (pc := 4) (v := (nI 3)) hX dX1_currentGoal_4 (by decide) ?_
  refine g_icmpN_ne (pc := 5) (tgt := 15) hX (by omega) (by omega) dX1_currentGoal_5 (by decide) (fun c5 => ?_) (fun c5 => ?_)
  · refine g_iconst (pc := 15) (v := (-1)) hX dX1_currentGoal_15 (by decide) ?_
    exact hret (u := ()) dX1_currentGoal_16 (by unfold sGoal; rw [if_neg c5]) rfl
  · refine g_aload_n (pc := 8) hX dX1_currentGoal_8 rfl 0 rfl ?_
    refine g_get (pc := 9) (C := RX1) (T := TX1) (N := 9) (ci := 1) (v := .int (nI g)) hX inX1_currentGoal_X1 0 rfl rfl 3 (by decide) flX1_currentGoal_28 rfl rfl dX1_currentGoal_9 ?_
    refine g_goto (pc := 12) (tgt := 16) hX dX1_currentGoal_12 (by decide) ?_
    exact hret (u := ()) dX1_currentGoal_16 (by unfold sGoal; rw [if_pos c5]) rfl
abbrev rmX1_tally : Room := { frames := 0, cells := 0, slots := 0, locals := 0 }
theorem flX1_tally_38 : Cond.fieldLink RX1 38 "TwoTierCache$Tier" "hits" "I" ∈ wsX1_tally := by decide +kernel
theorem inX1_tally_X1 : ∀ w ∈ u_ws RX1 TX1 9, w ∈ wsX1_tally := by decide +kernel
theorem flX1_tally_41 : Cond.fieldLink RX1 41 "TwoTierCache$Tier" "misses" "I" ∈ wsX1_tally := by decide +kernel
theorem flX1_tally_44 : Cond.fieldLink RX1 44 "TwoTierCache$Tier" "dirtyVictims" "I" ∈ wsX1_tally := by decide +kernel
set_option maxHeartbeats 4000000 in
set_option maxRecDepth 100000 in
/-- tally -/
theorem c_X1_tally (l : Launch) (K : gT) (h : Nat) (ad : Nat → Nat) (pol c g : Nat) (db mb : Int64) (hi mi dv : Int32) (a b d e : List Nat) (f0 f1 f2 f3 : Nat → Int32) (what : Int32) : Ci l yX1_tally wsX1_tally rmX1_tally K [.ref h, .int what] (tW K h ad pol c g db mb hi mi dv a b d e f0 f1 f2 f3) (fun (r : Int32) (u : Unit) => r = sCount hi mi dv what) (fun u => tW K h ad pol c g db mb hi mi dv a b d e f0 f1 f2 f3) 0 0 := by
  refine m_i (cc := cX1_tally) (own := RX1) (maxL := 2) (lv0 := [(0, .ref h), (1, .int what)]) (by decide) rfl rfl (Nat.le_of_ble_eq_true rfl) rfl ?_
  intro X hX hin hret
  refine g_ws (ws' := [(h, .inr (1, [.ref (ad 0), .int (nI pol), .int (nI c), .int (nI g), .long db, .long mb, .int hi, .int mi, .int dv])), (ad 0, .inl (K.2.2.2, 4, .inr (.inr (.inr (.inr (rw4 (ad 1) (ad 3) (ad 5) (ad 7))))))), (ad 1, .inr (0, [.ref (ad 2), .int (nI a.length)])), (ad 2, .inl (K.2.1, 17, .inl f0)), (ad 3, .inr (0, [.ref (ad 4), .int (nI b.length)])), (ad 4, .inl (K.2.1, 17, .inl f1)), (ad 5, .inr (0, [.ref (ad 6), .int (nI d.length)])), (ad 6, .inl (K.2.1, 17, .inl f2)), (ad 7, .inr (0, [.ref (ad 8), .int (nI e.length)])), (ad 8, .inl (K.2.1, 17, .inl f3))]) rfl ?_
  refine g_iload_n (pc := 0) hX dX1_tally_0 rfl 1 rfl ?_
  by_cases e0 : what = 0
  · subst e0
    refine g_tableIn (pc := 1) (x := 0) (off := 27) (tgt := 28) hX dX1_tally_1 (by decide) (by decide) (by decide) (by decide) ?_
    refine g_aload_n (pc := 28) hX dX1_tally_28 rfl 0 rfl ?_
    refine g_get (pc := 29) (C := RX1) (T := TX1) (N := 9) (ci := 1) (v := .int hi) hX inX1_tally_X1 0 rfl rfl 6 (by decide) flX1_tally_38 rfl rfl dX1_tally_29 ?_
    exact hret (u := ()) dX1_tally_32 (by unfold sCount; rw [if_pos rfl]) rfl
  by_cases e1 : what = 1
  · subst e1
    refine g_tableIn (pc := 1) (x := 1) (off := 32) (tgt := 33) hX dX1_tally_1 (by decide) (by decide) (by decide) (by decide) ?_
    refine g_aload_n (pc := 33) hX dX1_tally_33 rfl 0 rfl ?_
    refine g_get (pc := 34) (C := RX1) (T := TX1) (N := 9) (ci := 1) (v := .int mi) hX inX1_tally_X1 0 rfl rfl 7 (by decide) flX1_tally_41 rfl rfl dX1_tally_34 ?_
    exact hret (u := ()) dX1_tally_37 (by unfold sCount; rw [if_neg (by decide), if_pos rfl]) rfl
  by_cases e2 : what = 2
  · subst e2
    refine g_tableIn (pc := 1) (x := 2) (off := 37) (tgt := 38) hX dX1_tally_1 (by decide) (by decide) (by decide) (by decide) ?_
    refine g_aload_n (pc := 38) hX dX1_tally_38 rfl 0 rfl ?_
    refine g_get (pc := 39) (C := RX1) (T := TX1) (N := 9) (ci := 1) (v := .int dv) hX inX1_tally_X1 0 rfl rfl 8 (by decide) flX1_tally_44 rfl rfl dX1_tally_39 ?_
    exact hret (u := ()) dX1_tally_42 (by unfold sCount; rw [if_neg (by decide), if_neg (by decide), if_pos rfl]) rfl
  · refine g_tableOut (pc := 1) (tgt := 43) hX dX1_tally_1 (sw3 e0 e1 e2) (by decide) ?_
    refine g_iconst (pc := 43) (v := (-1)) hX dX1_tally_43 (by decide) ?_
    exact hret (u := ()) dX1_tally_44 (by unfold sCount; rw [if_neg e0, if_neg e1, if_neg e2]) rfl
abbrev rmX1_soil : Room := { frames := 1, cells := 0, slots := 0, locals := 20 }
theorem flX1_soil_31 : Cond.fieldLink RX1 31 "TwoTierCache$Tier" "dirtyPages" "J" ∈ wsX1_soil := by decide +kernel
theorem inX1_soil_X1 : ∀ w ∈ u_ws RX1 TX1 9, w ∈ wsX1_soil := by decide +kernel
set_option maxHeartbeats 4000000 in
set_option maxRecDepth 100000 in
/-- soil -/
theorem c_X1_soil (l : Launch) (K : gT) (h : Nat) (ad : Nat → Nat) (pol c g : Nat) (db mb : Int64) (hi mi dv : Int32) (a b d e : List Nat) (f0 f1 f2 f3 : Nat → Int32) (D : Nat → Bool) (hD : bitsR db D) (p : Nat) (hp : p < 64) : Cv l yX1_soil wsX1_soil rmX1_soil K [.ref h, .int (nI p)] (tW K h ad pol c g db mb hi mi dv a b d e f0 f1 f2 f3) (fun (u : Int64) => bitsR u (setB D p true)) (fun u => tW K h ad pol c g u mb hi mi dv a b d e f0 f1 f2 f3) 0 0 := by
  refine m_v (cc := cX1_soil) (own := RX1) (maxL := 2) (lv0 := [(0, .ref h), (1, .int (nI p))]) (by decide) rfl rfl (Nat.le_of_ble_eq_true rfl) rfl ?_
  intro X hX hin hret
  refine g_ws (ws' := [(h, .inr (1, [.ref (ad 0), .int (nI pol), .int (nI c), .int (nI g), .long db, .long mb, .int hi, .int mi, .int dv])), (ad 0, .inl (K.2.2.2, 4, .inr (.inr (.inr (.inr (rw4 (ad 1) (ad 3) (ad 5) (ad 7))))))), (ad 1, .inr (0, [.ref (ad 2), .int (nI a.length)])), (ad 2, .inl (K.2.1, 17, .inl f0)), (ad 3, .inr (0, [.ref (ad 4), .int (nI b.length)])), (ad 4, .inl (K.2.1, 17, .inl f1)), (ad 5, .inr (0, [.ref (ad 6), .int (nI d.length)])), (ad 6, .inl (K.2.1, 17, .inl f2)), (ad 7, .inr (0, [.ref (ad 8), .int (nI e.length)])), (ad 8, .inl (K.2.1, 17, .inl f3))]) rfl ?_
  refine g_aload_n (pc := 0) hX dX1_soil_0 rfl 0 rfl ?_
  refine g_dup (pc := 1) hX dX1_soil_1 rfl ?_
  refine g_get (pc := 2) (C := RX1) (T := TX1) (N := 9) (ci := 1) (v := .long db) hX inX1_soil_X1 0 rfl rfl 4 (by decide) flX1_soil_31 rfl rfl dX1_soil_2 ?_
  refine g_iload_n (pc := 5) hX dX1_soil_5 rfl 1 rfl ?_
  refine g_cl (pc := 6) hX (wc := []) (wr := [(h, .inr (1, [.ref (ad 0), .int (nI pol), .int (nI c), .int (nI g), .long db, .long mb, .int hi, .int mi, .int dv])), (ad 0, .inl (K.2.2.2, 4, .inr (.inr (.inr (.inr (rw4 (ad 1) (ad 3) (ad 5) (ad 7))))))), (ad 1, .inr (0, [.ref (ad 2), .int (nI a.length)])), (ad 2, .inl (K.2.1, 17, .inl f0)), (ad 3, .inr (0, [.ref (ad 4), .int (nI b.length)])), (ad 4, .inl (K.2.1, 17, .inl f1)), (ad 5, .inr (0, [.ref (ad 6), .int (nI d.length)])), (ad 6, .inl (K.2.1, 17, .inl f2)), (ad 7, .inr (0, [.ref (ad 8), .int (nI e.length)])), (ad 8, .inl (K.2.1, 17, .inl f3))]) (Wd' := fun u => [(h, .inr (1, [.ref (ad 0), .int (nI pol), .int (nI c), .int (nI g), .long db, .long mb, .int hi, .int mi, .int dv])), (ad 0, .inl (K.2.2.2, 4, .inr (.inr (.inr (.inr (rw4 (ad 1) (ad 3) (ad 5) (ad 7))))))), (ad 1, .inr (0, [.ref (ad 2), .int (nI a.length)])), (ad 2, .inl (K.2.1, 17, .inl f0)), (ad 3, .inr (0, [.ref (ad 4), .int (nI b.length)])), (ad 4, .inl (K.2.1, 17, .inl f1)), (ad 5, .inr (0, [.ref (ad 6), .int (nI d.length)])), (ad 6, .inl (K.2.1, 17, .inl f2)), (ad 7, .inr (0, [.ref (ad 8), .int (nI e.length)])), (ad 8, .inl (K.2.1, 17, .inl f3))]) (g_goS (pc := 6) hX (As := [.int (nI p)]) (stk := [.long db, .ref h]) (wc := []) (c_X1_bit l K p) rfl rfl rfl gX1_soil_X1_bit nX1_bitS ⟨(Nat.le_of_ble_eq_true rfl), (Nat.le_of_ble_eq_true rfl)⟩ [] rfl rfl rfl (Nat.le_of_ble_eq_true rfl) dX1_soil_6 ⟨(Nat.le_of_ble_eq_true rfl), (Nat.le_of_ble_eq_true rfl)⟩) [] [0, 1, 2, 3, 4, 5, 6, 7, 8, 9] [0, 1, 2, 3, 4, 5, 6, 7, 8, 9] rfl rfl rfl (by decide) rfl (fun _ => rfl) (fun r u h6 => ?_)
  obtain rfl := h6
  refine g_lor (pc := 9) (z := db ||| (btL p)) hX dX1_soil_9 rfl ?_
  refine g_put (pc := 10) (C := RX1) (T := TX1) (N := 9) (ci := 1) (v := .long (db ||| (btL p))) (ws' := [(h, .inr (1, [.ref (ad 0), .int (nI pol), .int (nI c), .int (nI g), .long (db ||| (btL p)), .long mb, .int hi, .int mi, .int dv])), (ad 0, .inl (K.2.2.2, 4, .inr (.inr (.inr (.inr (rw4 (ad 1) (ad 3) (ad 5) (ad 7))))))), (ad 1, .inr (0, [.ref (ad 2), .int (nI a.length)])), (ad 2, .inl (K.2.1, 17, .inl f0)), (ad 3, .inr (0, [.ref (ad 4), .int (nI b.length)])), (ad 4, .inl (K.2.1, 17, .inl f1)), (ad 5, .inr (0, [.ref (ad 6), .int (nI d.length)])), (ad 6, .inl (K.2.1, 17, .inl f2)), (ad 7, .inr (0, [.ref (ad 8), .int (nI e.length)])), (ad 8, .inl (K.2.1, 17, .inl f3))]) hX inX1_soil_X1 tyX1 tyX1_ok nmX1 0 rfl rfl 4 (by decide) flX1_soil_31 rfl rfl rfl rfl (Nat.le_of_ble_eq_true rfl) rfl dX1_soil_10 ?_
  exact hret (u := db ||| btL p) dX1_soil_13 (bits_or hD hp) rfl
abbrev rmX1_clean : Room := { frames := 2, cells := 0, slots := 0, locals := 41 }
theorem nX1_isDirtyV : yX1_isDirty.cls = RX1 ∧ yX1_isDirty.cls ≠ "java/lang/invoke/MethodHandle" ∧ yX1_isDirty.cls ≠ "java/lang/invoke/VarHandle" ∧ (parseMethodDescriptor yX1_isDirty.desc).map (fun d => d.parameters.length) = some 1 := by decide +kernel
theorem flX1_clean_31 : Cond.fieldLink RX1 31 "TwoTierCache$Tier" "dirtyPages" "J" ∈ wsX1_clean := by decide +kernel
theorem inX1_clean_X1 : ∀ w ∈ u_ws RX1 TX1 9, w ∈ wsX1_clean := by decide +kernel
theorem wdX1_clean_k62 : Cond.constantLong RX1 62 (-1) ∈ wsX1_clean := by decide +kernel
set_option maxHeartbeats 4000000 in
set_option maxRecDepth 100000 in
/-- clean -/
theorem c_X1_clean (l : Launch) (K : gT) (h : Nat) (ad : Nat → Nat) (pol c g : Nat) (db mb : Int64) (hi mi dv : Int32) (a b d e : List Nat) (f0 f1 f2 f3 : Nat → Int32) (D : Nat → Bool) (hD : bitsR db D) (p : Nat) (hp : p < 64) : Ci l yX1_clean wsX1_clean rmX1_clean K [.ref h, .int (nI p)] (tW K h ad pol c g db mb hi mi dv a b d e f0 f1 f2 f3) (fun (r : Int32) (u : Int64) => r = bI (D p) ∧ bitsR u (setB D p false)) (fun u => tW K h ad pol c g u mb hi mi dv a b d e f0 f1 f2 f3) 0 0 := by
  refine m_z (cc := cX1_clean) (own := RX1) (maxL := 3) (lv0 := [(0, .ref h), (1, .int (nI p))]) (by decide) rfl rfl (Nat.le_of_ble_eq_true rfl) rfl ?_
  intro X hX hin hret
  refine g_ws (ws' := [(h, .inr (1, [.ref (ad 0), .int (nI pol), .int (nI c), .int (nI g), .long db, .long mb, .int hi, .int mi, .int dv])), (ad 0, .inl (K.2.2.2, 4, .inr (.inr (.inr (.inr (rw4 (ad 1) (ad 3) (ad 5) (ad 7))))))), (ad 1, .inr (0, [.ref (ad 2), .int (nI a.length)])), (ad 2, .inl (K.2.1, 17, .inl f0)), (ad 3, .inr (0, [.ref (ad 4), .int (nI b.length)])), (ad 4, .inl (K.2.1, 17, .inl f1)), (ad 5, .inr (0, [.ref (ad 6), .int (nI d.length)])), (ad 6, .inl (K.2.1, 17, .inl f2)), (ad 7, .inr (0, [.ref (ad 8), .int (nI e.length)])), (ad 8, .inl (K.2.1, 17, .inl f3))]) rfl ?_
  refine g_aload_n (pc := 0) hX dX1_clean_0 rfl 0 rfl ?_
  refine g_iload_n (pc := 1) hX dX1_clean_1 rfl 1 rfl ?_
  refine g_ci (pc := 2) hX (wc := [(h, .inr (1, [.ref (ad 0), .int (nI pol), .int (nI c), .int (nI g), .long db, .long mb, .int hi, .int mi, .int dv])), (ad 0, .inl (K.2.2.2, 4, .inr (.inr (.inr (.inr (rw4 (ad 1) (ad 3) (ad 5) (ad 7))))))), (ad 1, .inr (0, [.ref (ad 2), .int (nI a.length)])), (ad 2, .inl (K.2.1, 17, .inl f0)), (ad 3, .inr (0, [.ref (ad 4), .int (nI b.length)])), (ad 4, .inl (K.2.1, 17, .inl f1)), (ad 5, .inr (0, [.ref (ad 6), .int (nI d.length)])), (ad 6, .inl (K.2.1, 17, .inl f2)), (ad 7, .inr (0, [.ref (ad 8), .int (nI e.length)])), (ad 8, .inl (K.2.1, 17, .inl f3))]) (wr := []) (Wd' := fun u => [(h, .inr (1, [.ref (ad 0), .int (nI pol), .int (nI c), .int (nI g), .long db, .long mb, .int hi, .int mi, .int dv])), (ad 0, .inl (K.2.2.2, 4, .inr (.inr (.inr (.inr (rw4 (ad 1) (ad 3) (ad 5) (ad 7))))))), (ad 1, .inr (0, [.ref (ad 2), .int (nI a.length)])), (ad 2, .inl (K.2.1, 17, .inl f0)), (ad 3, .inr (0, [.ref (ad 4), .int (nI b.length)])), (ad 4, .inl (K.2.1, 17, .inl f1)), (ad 5, .inr (0, [.ref (ad 6), .int (nI d.length)])), (ad 6, .inl (K.2.1, 17, .inl f2)), (ad 7, .inr (0, [.ref (ad 8), .int (nI e.length)])), (ad 8, .inl (K.2.1, 17, .inl f3))]) (g_goV (pc := 2) hX (As := [.int (nI p)]) (stk := []) (wc := [(h, .inr (1, [.ref (ad 0), .int (nI pol), .int (nI c), .int (nI g), .long db, .long mb, .int hi, .int mi, .int dv])), (ad 0, .inl (K.2.2.2, 4, .inr (.inr (.inr (.inr (rw4 (ad 1) (ad 3) (ad 5) (ad 7))))))), (ad 1, .inr (0, [.ref (ad 2), .int (nI a.length)])), (ad 2, .inl (K.2.1, 17, .inl f0)), (ad 3, .inr (0, [.ref (ad 4), .int (nI b.length)])), (ad 4, .inl (K.2.1, 17, .inl f1)), (ad 5, .inr (0, [.ref (ad 6), .int (nI d.length)])), (ad 6, .inl (K.2.1, 17, .inl f2)), (ad 7, .inr (0, [.ref (ad 8), .int (nI e.length)])), (ad 8, .inl (K.2.1, 17, .inl f3))]) (c_X1_isDirty l K h ad pol c g db mb hi mi dv a b d e f0 f1 f2 f3 D hD p (by omega)) rfl rfl rfl gX1_clean_X1_isDirty nX1_isDirtyV rfl 0 rfl ⟨(Nat.le_of_ble_eq_true rfl), (Nat.le_of_ble_eq_true rfl)⟩ [0, 1, 2, 3, 4, 5, 6, 7, 8, 9] rfl rfl rfl (Nat.le_of_ble_eq_true rfl) dX1_clean_2 ⟨(Nat.le_of_ble_eq_true rfl), (Nat.le_of_ble_eq_true rfl)⟩) [0, 1, 2, 3, 4, 5, 6, 7, 8, 9] [] [0, 1, 2, 3, 4, 5, 6, 7, 8, 9] rfl rfl rfl (by decide) rfl (fun _ => rfl) (fun r u h2 => ?_)
  obtain rfl := h2
  refine g_istore_n (pc := 5) (lv' := [(2, .int (bI (D p))), (0, .ref h), (1, .int (nI p))]) hX dX1_clean_5 rfl (by decide) rfl ?_
  refine g_aload_n (pc := 6) hX dX1_clean_6 rfl 1 rfl ?_
  refine g_dup (pc := 7) hX dX1_clean_7 rfl ?_
  refine g_get (pc := 8) (C := RX1) (T := TX1) (N := 9) (ci := 1) (v := .long db) hX inX1_clean_X1 0 rfl rfl 4 (by decide) flX1_clean_31 rfl rfl dX1_clean_8 ?_
  refine g_iload_n (pc := 11) hX dX1_clean_11 rfl 2 rfl ?_
  refine g_cl (pc := 12) hX (wc := []) (wr := [(h, .inr (1, [.ref (ad 0), .int (nI pol), .int (nI c), .int (nI g), .long db, .long mb, .int hi, .int mi, .int dv])), (ad 0, .inl (K.2.2.2, 4, .inr (.inr (.inr (.inr (rw4 (ad 1) (ad 3) (ad 5) (ad 7))))))), (ad 1, .inr (0, [.ref (ad 2), .int (nI a.length)])), (ad 2, .inl (K.2.1, 17, .inl f0)), (ad 3, .inr (0, [.ref (ad 4), .int (nI b.length)])), (ad 4, .inl (K.2.1, 17, .inl f1)), (ad 5, .inr (0, [.ref (ad 6), .int (nI d.length)])), (ad 6, .inl (K.2.1, 17, .inl f2)), (ad 7, .inr (0, [.ref (ad 8), .int (nI e.length)])), (ad 8, .inl (K.2.1, 17, .inl f3))]) (Wd' := fun u => [(h, .inr (1, [.ref (ad 0), .int (nI pol), .int (nI c), .int (nI g), .long db, .long mb, .int hi, .int mi, .int dv])), (ad 0, .inl (K.2.2.2, 4, .inr (.inr (.inr (.inr (rw4 (ad 1) (ad 3) (ad 5) (ad 7))))))), (ad 1, .inr (0, [.ref (ad 2), .int (nI a.length)])), (ad 2, .inl (K.2.1, 17, .inl f0)), (ad 3, .inr (0, [.ref (ad 4), .int (nI b.length)])), (ad 4, .inl (K.2.1, 17, .inl f1)), (ad 5, .inr (0, [.ref (ad 6), .int (nI d.length)])), (ad 6, .inl (K.2.1, 17, .inl f2)), (ad 7, .inr (0, [.ref (ad 8), .int (nI e.length)])), (ad 8, .inl (K.2.1, 17, .inl f3))]) (g_goS (pc := 12) hX (As := [.int (nI p)]) (stk := [.long db, .ref h]) (wc := []) (c_X1_bit l K p) rfl rfl rfl gX1_clean_X1_bit nX1_bitS ⟨(Nat.le_of_ble_eq_true rfl), (Nat.le_of_ble_eq_true rfl)⟩ [] rfl rfl rfl (Nat.le_of_ble_eq_true rfl) dX1_clean_12 ⟨(Nat.le_of_ble_eq_true rfl), (Nat.le_of_ble_eq_true rfl)⟩) [] [0, 1, 2, 3, 4, 5, 6, 7, 8, 9] [0, 1, 2, 3, 4, 5, 6, 7, 8, 9] rfl rfl rfl (by decide) rfl (fun _ => rfl) (fun r u h12 => ?_)
  obtain rfl := h12
  refine g_ldc2 (pc := 15) (v := (-1)) hX wdX1_clean_k62 dX1_clean_15 ?_
  refine g_lxor (pc := 18) (z := (btL p) ^^^ (-1)) hX dX1_clean_18 rfl ?_
  refine g_land (pc := 19) (z := db &&& ((btL p) ^^^ (-1))) hX dX1_clean_19 rfl ?_
  refine g_put (pc := 20) (C := RX1) (T := TX1) (N := 9) (ci := 1) (v := .long (db &&& ((btL p) ^^^ (-1)))) (ws' := [(h, .inr (1, [.ref (ad 0), .int (nI pol), .int (nI c), .int (nI g), .long (db &&& ((btL p) ^^^ (-1))), .long mb, .int hi, .int mi, .int dv])), (ad 0, .inl (K.2.2.2, 4, .inr (.inr (.inr (.inr (rw4 (ad 1) (ad 3) (ad 5) (ad 7))))))), (ad 1, .inr (0, [.ref (ad 2), .int (nI a.length)])), (ad 2, .inl (K.2.1, 17, .inl f0)), (ad 3, .inr (0, [.ref (ad 4), .int (nI b.length)])), (ad 4, .inl (K.2.1, 17, .inl f1)), (ad 5, .inr (0, [.ref (ad 6), .int (nI d.length)])), (ad 6, .inl (K.2.1, 17, .inl f2)), (ad 7, .inr (0, [.ref (ad 8), .int (nI e.length)])), (ad 8, .inl (K.2.1, 17, .inl f3))]) hX inX1_clean_X1 tyX1 tyX1_ok nmX1 0 rfl rfl 4 (by decide) flX1_clean_31 rfl rfl rfl rfl (Nat.le_of_ble_eq_true rfl) rfl dX1_clean_20 ?_
  refine g_iload_n (pc := 23) hX dX1_clean_23 rfl 0 rfl ?_
  exact hret (v := D p) (u := db &&& (btL p ^^^ (-1))) dX1_clean_24 (⟨rfl, bits_clr hD hp⟩) rfl
def vD (D : Nat → Bool) (o : Option Nat) : Bool := match o with | none => false | some p => D p
def vC (D : Nat → Bool) (o : Option Nat) : Nat → Bool := match o with | none => D | some p => setB D p false
abbrev rmX1_cleanVictim : Room := { frames := 3, cells := 0, slots := 0, locals := 63 }
theorem nX1_cleanV : yX1_clean.cls = RX1 ∧ yX1_clean.cls ≠ "java/lang/invoke/MethodHandle" ∧ yX1_clean.cls ≠ "java/lang/invoke/VarHandle" ∧ (parseMethodDescriptor yX1_clean.desc).map (fun d => d.parameters.length) = some 1 := by decide +kernel
theorem flX1_cleanVictim_44 : Cond.fieldLink RX1 44 "TwoTierCache$Tier" "dirtyVictims" "I" ∈ wsX1_cleanVictim := by decide +kernel
theorem inX1_cleanVictim_X1 : ∀ w ∈ u_ws RX1 TX1 9, w ∈ wsX1_cleanVictim := by decide +kernel
set_option maxHeartbeats 4000000 in
set_option maxRecDepth 100000 in
/-- cleanVictim -/
theorem c_X1_cleanVictim (l : Launch) (K : gT) (h : Nat) (ad : Nat → Nat) (pol c g : Nat) (db mb : Int64) (hi mi dv : Int32) (a b d e : List Nat) (f0 f1 f2 f3 : Nat → Int32) (D : Nat → Bool) (hD : bitsR db D) (o : Option Nat) (ho : ∀ p, o = some p → p < 64) : Ci l yX1_cleanVictim wsX1_cleanVictim rmX1_cleanVictim K [.ref h, .int (pI o)] (tW K h ad pol c g db mb hi mi dv a b d e f0 f1 f2 f3) (fun (r : Int32) (u : Int64 × Int32) => r = bI (vD D o) ∧ bitsR u.1 (vC D o) ∧ u.2 = if vD D o = true then dv + 1 else dv) (fun u => tW K h ad pol c g u.1 mb hi mi u.2 a b d e f0 f1 f2 f3) 0 0 := by
  refine m_z (cc := cX1_cleanVictim) (own := RX1) (maxL := 2) (lv0 := [(0, .ref h), (1, .int (pI o))]) (by decide) rfl rfl (Nat.le_of_ble_eq_true rfl) rfl ?_
  intro X hX hin hret
  refine g_ws (ws' := [(h, .inr (1, [.ref (ad 0), .int (nI pol), .int (nI c), .int (nI g), .long db, .long mb, .int hi, .int mi, .int dv])), (ad 0, .inl (K.2.2.2, 4, .inr (.inr (.inr (.inr (rw4 (ad 1) (ad 3) (ad 5) (ad 7))))))), (ad 1, .inr (0, [.ref (ad 2), .int (nI a.length)])), (ad 2, .inl (K.2.1, 17, .inl f0)), (ad 3, .inr (0, [.ref (ad 4), .int (nI b.length)])), (ad 4, .inl (K.2.1, 17, .inl f1)), (ad 5, .inr (0, [.ref (ad 6), .int (nI d.length)])), (ad 6, .inl (K.2.1, 17, .inl f2)), (ad 7, .inr (0, [.ref (ad 8), .int (nI e.length)])), (ad 8, .inl (K.2.1, 17, .inl f3))]) rfl ?_
  cases o with
  | none =>
    refine g_lv (lv' := [(0, .ref h), (1, .int (-1))]) rfl ?_
    refine g_iload_n (pc := 0) hX dX1_cleanVictim_0 rfl 1 rfl ?_
    refine g_iconst (pc := 1) (v := (-1)) hX dX1_cleanVictim_1 (by decide) ?_
    refine g_icmp_eq (pc := 2) (tgt := 13) hX dX1_cleanVictim_2 (by decide) (fun c2 => ?_) (fun c2 => absurd c2 (fun q => absurd rfl q))
    refine g_iconst (pc := 13) (v := (nI 0)) hX dX1_cleanVictim_13 (by decide) ?_
    refine g_top (y := bI false) (by decide) ?_
    exact hret (v := false) (u := (db, dv)) dX1_cleanVictim_14 (⟨rfl, hD, rfl⟩) rfl
  | some p =>
    refine g_lv (lv' := [(0, .ref h), (1, .int (nI p))]) rfl ?_
    have hp : p < 64 := ho p rfl
    refine g_iload_n (pc := 0) hX dX1_cleanVictim_0 rfl 1 rfl ?_
    refine g_iconst (pc := 1) (v := (-1)) hX dX1_cleanVictim_1 (by decide) ?_
    refine g_icmp_eq (pc := 2) (tgt := 13) hX dX1_cleanVictim_2 (by decide) (fun c2 => absurd c2 (nI_m1 (by omega))) (fun c2 => ?_)
    refine g_aload_n (pc := 5) hX dX1_cleanVictim_5 rfl 0 rfl ?_
    refine g_iload_n (pc := 6) hX dX1_cleanVictim_6 rfl 1 rfl ?_
    refine g_ci (pc := 7) hX (wc := [(h, .inr (1, [.ref (ad 0), .int (nI pol), .int (nI c), .int (nI g), .long db, .long mb, .int hi, .int mi, .int dv])), (ad 0, .inl (K.2.2.2, 4, .inr (.inr (.inr (.inr (rw4 (ad 1) (ad 3) (ad 5) (ad 7))))))), (ad 1, .inr (0, [.ref (ad 2), .int (nI a.length)])), (ad 2, .inl (K.2.1, 17, .inl f0)), (ad 3, .inr (0, [.ref (ad 4), .int (nI b.length)])), (ad 4, .inl (K.2.1, 17, .inl f1)), (ad 5, .inr (0, [.ref (ad 6), .int (nI d.length)])), (ad 6, .inl (K.2.1, 17, .inl f2)), (ad 7, .inr (0, [.ref (ad 8), .int (nI e.length)])), (ad 8, .inl (K.2.1, 17, .inl f3))]) (wr := []) (Wd' := fun u7 => [(h, .inr (1, [.ref (ad 0), .int (nI pol), .int (nI c), .int (nI g), .long u7, .long mb, .int hi, .int mi, .int dv])), (ad 0, .inl (K.2.2.2, 4, .inr (.inr (.inr (.inr (rw4 (ad 1) (ad 3) (ad 5) (ad 7))))))), (ad 1, .inr (0, [.ref (ad 2), .int (nI a.length)])), (ad 2, .inl (K.2.1, 17, .inl f0)), (ad 3, .inr (0, [.ref (ad 4), .int (nI b.length)])), (ad 4, .inl (K.2.1, 17, .inl f1)), (ad 5, .inr (0, [.ref (ad 6), .int (nI d.length)])), (ad 6, .inl (K.2.1, 17, .inl f2)), (ad 7, .inr (0, [.ref (ad 8), .int (nI e.length)])), (ad 8, .inl (K.2.1, 17, .inl f3))]) (g_goV (pc := 7) hX (As := [.int (nI p)]) (stk := []) (wc := [(h, .inr (1, [.ref (ad 0), .int (nI pol), .int (nI c), .int (nI g), .long db, .long mb, .int hi, .int mi, .int dv])), (ad 0, .inl (K.2.2.2, 4, .inr (.inr (.inr (.inr (rw4 (ad 1) (ad 3) (ad 5) (ad 7))))))), (ad 1, .inr (0, [.ref (ad 2), .int (nI a.length)])), (ad 2, .inl (K.2.1, 17, .inl f0)), (ad 3, .inr (0, [.ref (ad 4), .int (nI b.length)])), (ad 4, .inl (K.2.1, 17, .inl f1)), (ad 5, .inr (0, [.ref (ad 6), .int (nI d.length)])), (ad 6, .inl (K.2.1, 17, .inl f2)), (ad 7, .inr (0, [.ref (ad 8), .int (nI e.length)])), (ad 8, .inl (K.2.1, 17, .inl f3))]) (c_X1_clean l K h ad pol c g db mb hi mi dv a b d e f0 f1 f2 f3 D hD p (by omega)) rfl rfl rfl gX1_cleanVictim_X1_clean nX1_cleanV rfl 0 rfl ⟨(Nat.le_of_ble_eq_true rfl), (Nat.le_of_ble_eq_true rfl)⟩ [0, 1, 2, 3, 4, 5, 6, 7, 8, 9] rfl rfl rfl (Nat.le_of_ble_eq_true rfl) dX1_cleanVictim_7 ⟨(Nat.le_of_ble_eq_true rfl), (Nat.le_of_ble_eq_true rfl)⟩) [0, 1, 2, 3, 4, 5, 6, 7, 8, 9] [] [0, 1, 2, 3, 4, 5, 6, 7, 8, 9] rfl rfl rfl (by decide) rfl (fun _ => rfl) (fun r u7 h7 => ?_)
    obtain ⟨rfl, hb7⟩ := h7
    refine g_ifB_ne (pc := 10) (tgt := 15) hX dX1_cleanVictim_10 (by decide) (fun c10 => ?_) (fun c10 => ?_)
    · refine g_aload_n (pc := 15) hX dX1_cleanVictim_15 rfl 0 rfl ?_
      refine g_dup (pc := 16) hX dX1_cleanVictim_16 rfl ?_
      refine g_get (pc := 17) (C := RX1) (T := TX1) (N := 9) (ci := 1) (v := .int dv) hX inX1_cleanVictim_X1 0 rfl rfl 8 (by decide) flX1_cleanVictim_44 rfl rfl dX1_cleanVictim_17 ?_
      refine g_iconst (pc := 20) (v := (nI 1)) hX dX1_cleanVictim_20 (by decide) ?_
      refine g_iadd (pc := 21) (z := dv + 1) hX dX1_cleanVictim_21 rfl ?_
      refine g_put (pc := 22) (C := RX1) (T := TX1) (N := 9) (ci := 1) (v := .int (dv + 1)) (ws' := [(h, .inr (1, [.ref (ad 0), .int (nI pol), .int (nI c), .int (nI g), .long u7, .long mb, .int hi, .int mi, .int (dv + 1)])), (ad 0, .inl (K.2.2.2, 4, .inr (.inr (.inr (.inr (rw4 (ad 1) (ad 3) (ad 5) (ad 7))))))), (ad 1, .inr (0, [.ref (ad 2), .int (nI a.length)])), (ad 2, .inl (K.2.1, 17, .inl f0)), (ad 3, .inr (0, [.ref (ad 4), .int (nI b.length)])), (ad 4, .inl (K.2.1, 17, .inl f1)), (ad 5, .inr (0, [.ref (ad 6), .int (nI d.length)])), (ad 6, .inl (K.2.1, 17, .inl f2)), (ad 7, .inr (0, [.ref (ad 8), .int (nI e.length)])), (ad 8, .inl (K.2.1, 17, .inl f3))]) hX inX1_cleanVictim_X1 tyX1 tyX1_ok nmX1 0 rfl rfl 8 (by decide) flX1_cleanVictim_44 rfl rfl rfl rfl (Nat.le_of_ble_eq_true rfl) rfl dX1_cleanVictim_22 ?_
      refine g_iconst (pc := 25) (v := (nI 1)) hX dX1_cleanVictim_25 (by decide) ?_
      refine g_top (y := bI true) (by decide) ?_
      exact hret (v := true) (u := (u7, dv + 1)) dX1_cleanVictim_26 (by show _ = bI (D p) ∧ _ ∧ _ = if D p = true then _ else _; rw [c10]; exact ⟨rfl, hb7, rfl⟩) rfl
    · refine g_iconst (pc := 13) (v := (nI 0)) hX dX1_cleanVictim_13 (by decide) ?_
      refine g_top (y := bI false) (by decide) ?_
      exact hret (v := false) (u := (u7, dv)) dX1_cleanVictim_14 (by show _ = bI (D p) ∧ _ ∧ _ = if D p = true then _ else _; rw [c10]; exact ⟨rfl, hb7, rfl⟩) rfl
