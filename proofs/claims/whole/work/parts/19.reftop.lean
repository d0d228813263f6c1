/-! THE REFERENCE: touch, dries, askLower, access -/
abbrev rmX3_touch : Room := { frames := 5, cells := 0, slots := 0, locals := 123 }
theorem flX3_touch_65 : Cond.fieldLink RX3 65 "TwoTierCacheModel" "victim" "I" ∈ wsX3_touch := by decide +kernel
theorem inX3_touch_X3 : ∀ w ∈ u_ws RX3 TX3 11, w ∈ wsX3_touch := by decide +kernel
theorem flX3_touch_7 : Cond.fieldLink RX3 7 "TwoTierCacheModel" "policies" "[I" ∈ wsX3_touch := by decide +kernel
theorem nX3_balancedV : yX3_balanced.cls = RX3 ∧ yX3_balanced.cls ≠ "java/lang/invoke/MethodHandle" ∧ yX3_balanced.cls ≠ "java/lang/invoke/VarHandle" ∧ (parseMethodDescriptor yX3_balanced.desc).map (fun d => d.parameters.length) = some 2 := by decide +kernel
theorem flX3_touch_32 : Cond.fieldLink RX3 32 "TwoTierCacheModel" "counts" "[I" ∈ wsX3_touch := by decide +kernel
theorem nX3_queuesV : yX3_queues.cls = RX3 ∧ yX3_queues.cls ≠ "java/lang/invoke/MethodHandle" ∧ yX3_queues.cls ≠ "java/lang/invoke/VarHandle" ∧ (parseMethodDescriptor yX3_queues.desc).map (fun d => d.parameters.length) = some 2 := by decide +kernel
theorem nX3_clockV : yX3_clock.cls = RX3 ∧ yX3_clock.cls ≠ "java/lang/invoke/MethodHandle" ∧ yX3_clock.cls ≠ "java/lang/invoke/VarHandle" ∧ (parseMethodDescriptor yX3_clock.desc).map (fun d => d.parameters.length) = some 2 := by decide +kernel
theorem nX3_recentV : yX3_recent.cls = RX3 ∧ yX3_recent.cls ≠ "java/lang/invoke/MethodHandle" ∧ yX3_recent.cls ≠ "java/lang/invoke/VarHandle" ∧ (parseMethodDescriptor yX3_recent.desc).map (fun d => d.parameters.length) = some 2 := by decide +kernel
set_option maxHeartbeats 4000000 in
set_option maxRecDepth 100000 in
/-- touch -/
theorem c_X3_touch (l : Launch) (K : gT) (m : Nat) (am : Nat → Nat) (po ca go le pg mk we co : Nat → Int32) (rd wr vi : Int32) (SS : Nat → TS) (hMR : mR SS po ca go le pg mk we co) (t : Nat) (ht : t < 2) (hI : tInv (SS t)) (x : Nat) (hx : x < 64) : Ci l yX3_touch wsX3_touch rmX3_touch K [.ref m, .int (nI t), .int (nI x)] (mW K m am po ca go le pg mk we co rd wr vi) (fun (r : Int32) (u : (Nat → Int32) × (Nat → Int32) × (Nat → Int32) × (Nat → Int32) × (Nat → Int32) × Int32) => r = bI (tHolds (SS t) x) ∧ mR (va_up SS t (tTouch (SS t) x).2) po ca u.1 u.2.1 u.2.2.1 u.2.2.2.1 we u.2.2.2.2.1 ∧ u.2.2.2.2.2 = pI (tTouch (SS t) x).1) (fun u => mW K m am po ca u.1 u.2.1 u.2.2.1 u.2.2.2.1 we u.2.2.2.2.1 rd wr u.2.2.2.2.2) 0 0 := by
  refine m_z (cc := cX3_touch) (own := RX3) (maxL := 5) (lv0 := [(0, .ref m), (1, .int (nI t)), (2, .int (nI x))]) (by decide) rfl rfl (Nat.le_of_ble_eq_true rfl) rfl ?_
  intro X hX hin hret
  refine g_ws (ws' := [(m, .inr (3, [.ref (am 0), .ref (am 1), .ref (am 2), .ref (am 3), .ref (am 4), .ref (am 5), .ref (am 6), .ref (am 7), .int rd, .int wr, .int vi])), (am 0, .inl (K.2.1, 2, .inl po)), (am 1, .inl (K.2.1, 2, .inl ca)), (am 2, .inl (K.2.1, 2, .inl go)), (am 3, .inl (K.2.1, 8, .inl le)), (am 4, .inl (K.2.1, 160, .inl pg)), (am 5, .inl (K.2.2.1, 128, .inl mk)), (am 6, .inl (K.2.2.1, 128, .inl we)), (am 7, .inl (K.2.1, 6, .inl co))]) rfl ?_
  obtain ⟨⟨⟨pol, c, g⟩, ⟨a, b, d, e⟩, ⟨M, D⟩, hi, mi, dv⟩, hS⟩ : ∃ S : TS, S = SS t := ⟨_, rfl⟩
  rw [← hS] at hret hI
  have hpo : po t = nI pol := by rw [hMR.1 t ht, ← hS]
  have hca : ca t = nI c := by rw [hMR.2.1 t ht, ← hS]
  have hgo : go t = nI g := by rw [hMR.2.2.1 t ht, ← hS]
  have hR : rowsR le pg (rr t a b d e (rowsF SS)) := hMR.row hS
  have hmk : zR mk (va_up (fun s => (SS s).2.2.1.1) t M) := hMR.mk hS
  have hwe : zR we (va_up (fun s => (SS s).2.2.1.2) t D) := hMR.we hS
  have hco : co (3 * t) = hi ∧ co (3 * t + 1) = mi ∧ co (3 * t + 2) = dv := by have k := hMR.2.2.2.2.2.2 t ht; rw [← hS] at k; exact k
  obtain ⟨⟨hc1, hc2, hp4, hg16, hI0, hI2, hI3⟩, hMi, hpa, hpb, hpd, hpe⟩ := hI
  dsimp only at hc1 hc2 hp4 hg16 hI0 hI2 hI3 hpa hpb hpd hpe
  refine g_aload_n (pc := 0) hX dX3_touch_0 rfl 0 rfl ?_
  refine g_iconst (pc := 1) (v := (-1)) hX dX3_touch_1 (by decide) ?_
  refine g_put (pc := 2) (C := RX3) (T := TX3) (N := 11) (ci := 3) (v := .int (-1)) (ws' := [(m, .inr (3, [.ref (am 0), .ref (am 1), .ref (am 2), .ref (am 3), .ref (am 4), .ref (am 5), .ref (am 6), .ref (am 7), .int rd, .int wr, .int (-1)])), (am 0, .inl (K.2.1, 2, .inl po)), (am 1, .inl (K.2.1, 2, .inl ca)), (am 2, .inl (K.2.1, 2, .inl go)), (am 3, .inl (K.2.1, 8, .inl le)), (am 4, .inl (K.2.1, 160, .inl pg)), (am 5, .inl (K.2.2.1, 128, .inl mk)), (am 6, .inl (K.2.2.1, 128, .inl we)), (am 7, .inl (K.2.1, 6, .inl co))]) hX inX3_touch_X3 tyX3 tyX3_ok nmX3 0 rfl rfl 10 (by decide) flX3_touch_65 rfl rfl rfl rfl (Nat.le_of_ble_eq_true rfl) rfl dX3_touch_2 ?_
  refine g_aload_n (pc := 5) hX dX3_touch_5 rfl 0 rfl ?_
  refine g_get (pc := 6) (C := RX3) (T := TX3) (N := 11) (ci := 3) (v := .ref (am 0)) hX inX3_touch_X3 0 rfl rfl 0 (by decide) flX3_touch_7 rfl rfl dX3_touch_6 ?_
  refine g_iload_n (pc := 9) hX dX3_touch_9 rfl 1 rfl ?_
  refine g_iald (pc := 10) (v := (nI pol)) hX 1 rfl (by omega) (by omega) hpo dX3_touch_10 ?_
  refine g_ifN_ne (pc := 11) (tgt := 23) hX (by omega) dX3_touch_11 (by decide) (fun c11 => ?_) (fun c11 => ?_)
  · refine g_aload_n (pc := 23) hX dX3_touch_23 rfl 0 rfl ?_
    refine g_get (pc := 24) (C := RX3) (T := TX3) (N := 11) (ci := 3) (v := .ref (am 0)) hX inX3_touch_X3 0 rfl rfl 0 (by decide) flX3_touch_7 rfl rfl dX3_touch_24 ?_
    refine g_iload_n (pc := 27) hX dX3_touch_27 rfl 1 rfl ?_
    refine g_iald (pc := 28) (v := (nI pol)) hX 1 rfl (by omega) (by omega) hpo dX3_touch_28 ?_
    refine g_iconst (pc := 29) (v := (nI 1)) hX dX3_touch_29 (by decide) ?_
    refine g_icmpN_ne (pc := 30) (tgt := 42) hX (by omega) (by omega) dX3_touch_30 (by decide) (fun c30 => ?_) (fun c30 => ?_)
    · refine g_aload_n (pc := 42) hX dX3_touch_42 rfl 0 rfl ?_
      refine g_get (pc := 43) (C := RX3) (T := TX3) (N := 11) (ci := 3) (v := .ref (am 0)) hX inX3_touch_X3 0 rfl rfl 0 (by decide) flX3_touch_7 rfl rfl dX3_touch_43 ?_
      refine g_iload_n (pc := 46) hX dX3_touch_46 rfl 1 rfl ?_
      refine g_iald (pc := 47) (v := (nI pol)) hX 1 rfl (by omega) (by omega) hpo dX3_touch_47 ?_
      refine g_iconst (pc := 48) (v := (nI 2)) hX dX3_touch_48 (by decide) ?_
      refine g_icmpN_ne (pc := 49) (tgt := 61) hX (by omega) (by omega) dX3_touch_49 (by decide) (fun c49 => ?_) (fun c49 => ?_)
      · refine g_aload_n (pc := 61) hX dX3_touch_61 rfl 0 rfl ?_
        refine g_iload_n (pc := 62) hX dX3_touch_62 rfl 1 rfl ?_
        refine g_iload_n (pc := 63) hX dX3_touch_63 rfl 2 rfl ?_
        obtain rfl : pol = 3 := by omega
        refine g_ci (pc := 64) hX (wc := [(m, .inr (3, [.ref (am 0), .ref (am 1), .ref (am 2), .ref (am 3), .ref (am 4), .ref (am 5), .ref (am 6), .ref (am 7), .int rd, .int wr, .int (-1)])), (am 0, .inl (K.2.1, 2, .inl po)), (am 1, .inl (K.2.1, 2, .inl ca)), (am 2, .inl (K.2.1, 2, .inl go)), (am 3, .inl (K.2.1, 8, .inl le)), (am 4, .inl (K.2.1, 160, .inl pg)), (am 5, .inl (K.2.2.1, 128, .inl mk)), (am 6, .inl (K.2.2.1, 128, .inl we)), (am 7, .inl (K.2.1, 6, .inl co))]) (wr := []) (Wd' := fun u64 => [(m, .inr (3, [.ref (am 0), .ref (am 1), .ref (am 2), .ref (am 3), .ref (am 4), .ref (am 5), .ref (am 6), .ref (am 7), .int rd, .int wr, .int u64.2.2])), (am 0, .inl (K.2.1, 2, .inl po)), (am 1, .inl (K.2.1, 2, .inl ca)), (am 2, .inl (K.2.1, 2, .inl (upd go t (nI (sBal c g a b d e x).2.1)))), (am 3, .inl (K.2.1, 8, .inl u64.1)), (am 4, .inl (K.2.1, 160, .inl u64.2.1)), (am 5, .inl (K.2.2.1, 128, .inl mk)), (am 6, .inl (K.2.2.1, 128, .inl we)), (am 7, .inl (K.2.1, 6, .inl co))]) (g_goV (pc := 64) hX (As := [.int (nI t), .int (nI x)]) (stk := []) (wc := [(m, .inr (3, [.ref (am 0), .ref (am 1), .ref (am 2), .ref (am 3), .ref (am 4), .ref (am 5), .ref (am 6), .ref (am 7), .int rd, .int wr, .int (-1)])), (am 0, .inl (K.2.1, 2, .inl po)), (am 1, .inl (K.2.1, 2, .inl ca)), (am 2, .inl (K.2.1, 2, .inl go)), (am 3, .inl (K.2.1, 8, .inl le)), (am 4, .inl (K.2.1, 160, .inl pg)), (am 5, .inl (K.2.2.1, 128, .inl mk)), (am 6, .inl (K.2.2.1, 128, .inl we)), (am 7, .inl (K.2.1, 6, .inl co))]) (c_X3_balanced l K m am po ca go le pg mk we co rd wr t ht c g a b d e (rowsF SS) hR hca hgo (hI3 rfl) x hx) rfl rfl rfl gX3_touch_X3_balanced nX3_balancedV rfl 0 rfl ⟨(Nat.le_of_ble_eq_true rfl), (Nat.le_of_ble_eq_true rfl)⟩ [0, 1, 2, 3, 4, 5, 6, 7, 8] rfl rfl rfl (Nat.le_of_ble_eq_true rfl) dX3_touch_64 ⟨(Nat.le_of_ble_eq_true rfl), (Nat.le_of_ble_eq_true rfl)⟩) [0, 1, 2, 3, 4, 5, 6, 7, 8] [] [0, 1, 2, 3, 4, 5, 6, 7, 8] rfl rfl rfl (by decide) rfl (fun _ => rfl) (fun r u64 h64 => ?_)
        obtain ⟨rfl, hR9, hvi⟩ := h64
        refine g_istore_n (pc := 67) (lv' := [(3, .int (bI (sHolds 3 a b d x))), (0, .ref m), (1, .int (nI t)), (2, .int (nI x))]) hX dX3_touch_67 rfl (by decide) rfl ?_
        refine g_iload_n (pc := 68) hX dX3_touch_68 rfl 0 rfl ?_
        refine g_ifB_eq (pc := 69) (tgt := 78) hX dX3_touch_69 (by decide) (fun c69 => ?_) (fun c69 => ?_)
        · refine g_iconst (pc := 78) (v := (nI 3)) hX dX3_touch_78 (by decide) ?_
          refine g_iload_n (pc := 79) hX dX3_touch_79 rfl 2 rfl ?_
          refine g_imulN (pc := 80) (r := 3 * t) hX dX3_touch_80 (by first | rfl | omega) ?_
          refine g_iconst (pc := 81) (v := (nI 1)) hX dX3_touch_81 (by decide) ?_
          refine g_iaddN (pc := 82) (r := (3 * t) + 1) hX dX3_touch_82 (by first | rfl | omega) ?_
          refine g_istore (pc := 83) (lv' := [(4, .int (nI ((3 * t) + 1))), (3, .int (bI (sHolds 3 a b d x))), (0, .ref m), (1, .int (nI t)), (2, .int (nI x))]) hX dX3_touch_83 (by decide) rfl ?_
          refine g_aload_n (pc := 85) hX dX3_touch_85 rfl 2 rfl ?_
          refine g_get (pc := 86) (C := RX3) (T := TX3) (N := 11) (ci := 3) (v := .ref (am 7)) hX inX3_touch_X3 0 rfl rfl 7 (by decide) flX3_touch_32 rfl rfl dX3_touch_86 ?_
          refine g_iload (pc := 89) hX dX3_touch_89 0 rfl ?_
          refine g_aload_n (pc := 91) hX dX3_touch_91 rfl 2 rfl ?_
          refine g_get (pc := 92) (C := RX3) (T := TX3) (N := 11) (ci := 3) (v := .ref (am 7)) hX inX3_touch_X3 0 rfl rfl 7 (by decide) flX3_touch_32 rfl rfl dX3_touch_92 ?_
          refine g_iload (pc := 95) hX dX3_touch_95 0 rfl ?_
          refine g_iald (pc := 97) (v := mi) hX 8 rfl (by omega) (by omega) hco.2.1 dX3_touch_97 ?_
          refine g_iconst (pc := 98) (v := (nI 1)) hX dX3_touch_98 (by decide) ?_
          refine g_iadd (pc := 99) (z := mi + 1) hX dX3_touch_99 rfl ?_
          refine g_iast (pc := 100) (ws' := [(m, .inr (3, [.ref (am 0), .ref (am 1), .ref (am 2), .ref (am 3), .ref (am 4), .ref (am 5), .ref (am 6), .ref (am 7), .int rd, .int wr, .int u64.2.2])), (am 0, .inl (K.2.1, 2, .inl po)), (am 1, .inl (K.2.1, 2, .inl ca)), (am 2, .inl (K.2.1, 2, .inl (upd go t (nI (sBal c g a b d e x).2.1)))), (am 3, .inl (K.2.1, 8, .inl u64.1)), (am 4, .inl (K.2.1, 160, .inl u64.2.1)), (am 5, .inl (K.2.2.1, 128, .inl mk)), (am 6, .inl (K.2.2.1, 128, .inl we)), (am 7, .inl (K.2.1, 6, .inl (upd co ((3 * t) + 1) (mi + 1))))]) hX 8 rfl (by omega) (by omega) rfl dX3_touch_100 ?_
          refine g_iload_n (pc := 101) hX dX3_touch_101 rfl 1 rfl ?_
          have hh : tHolds (((3, c, g), (a, b, d, e), (M, D), hi, mi, dv) : TS) x = false := by
            exact c69
          have e0 : tTouch (((3, c, g), (a, b, d, e), (M, D), hi, mi, dv) : TS) x = ((sBal c g a b d e x).1, (3, c, (sBal c g a b d e x).2.1), (sBal c g a b d e x).2.2, (M, D), (hi, mi + 1, dv)) := by
            unfold tTouch
            rw [hh]
            rfl
          rw [hh, e0] at hret
          exact hret (v := sHolds 3 a b d x) (u := (upd go t (nI (sBal c g a b d e x).2.1), u64.1, u64.2.1, mk, upd co ((3 * t) + 1) (mi + 1), u64.2.2)) dX3_touch_102 (⟨by rw [c69], mR_set hMR ht (by rw [← hS]) (by rw [← hS]) pk_us (fun s hs => pk_un hs) hR9 hmk hwe ⟨(pk_un (by omega)).trans hco.1, pk_us, (pk_un (by omega)).trans hco.2.2⟩ (fun q hq => pk_un (by omega)), hvi⟩) rfl
        · refine g_iconst (pc := 72) (v := (nI 3)) hX dX3_touch_72 (by decide) ?_
          refine g_iload_n (pc := 73) hX dX3_touch_73 rfl 2 rfl ?_
          refine g_imulN (pc := 74) (r := 3 * t) hX dX3_touch_74 (by first | rfl | omega) ?_
          refine g_goto (pc := 75) (tgt := 83) hX dX3_touch_75 (by decide) ?_
          refine g_istore (pc := 83) (lv' := [(4, .int (nI (3 * t))), (3, .int (bI (sHolds 3 a b d x))), (0, .ref m), (1, .int (nI t)), (2, .int (nI x))]) hX dX3_touch_83 (by decide) rfl ?_
          refine g_aload_n (pc := 85) hX dX3_touch_85 rfl 2 rfl ?_
          refine g_get (pc := 86) (C := RX3) (T := TX3) (N := 11) (ci := 3) (v := .ref (am 7)) hX inX3_touch_X3 0 rfl rfl 7 (by decide) flX3_touch_32 rfl rfl dX3_touch_86 ?_
          refine g_iload (pc := 89) hX dX3_touch_89 0 rfl ?_
          refine g_aload_n (pc := 91) hX dX3_touch_91 rfl 2 rfl ?_
          refine g_get (pc := 92) (C := RX3) (T := TX3) (N := 11) (ci := 3) (v := .ref (am 7)) hX inX3_touch_X3 0 rfl rfl 7 (by decide) flX3_touch_32 rfl rfl dX3_touch_92 ?_
          refine g_iload (pc := 95) hX dX3_touch_95 0 rfl ?_
          refine g_iald (pc := 97) (v := hi) hX 8 rfl (by omega) (by omega) hco.1 dX3_touch_97 ?_
          refine g_iconst (pc := 98) (v := (nI 1)) hX dX3_touch_98 (by decide) ?_
          refine g_iadd (pc := 99) (z := hi + 1) hX dX3_touch_99 rfl ?_
          refine g_iast (pc := 100) (ws' := [(m, .inr (3, [.ref (am 0), .ref (am 1), .ref (am 2), .ref (am 3), .ref (am 4), .ref (am 5), .ref (am 6), .ref (am 7), .int rd, .int wr, .int u64.2.2])), (am 0, .inl (K.2.1, 2, .inl po)), (am 1, .inl (K.2.1, 2, .inl ca)), (am 2, .inl (K.2.1, 2, .inl (upd go t (nI (sBal c g a b d e x).2.1)))), (am 3, .inl (K.2.1, 8, .inl u64.1)), (am 4, .inl (K.2.1, 160, .inl u64.2.1)), (am 5, .inl (K.2.2.1, 128, .inl mk)), (am 6, .inl (K.2.2.1, 128, .inl we)), (am 7, .inl (K.2.1, 6, .inl (upd co (3 * t) (hi + 1))))]) hX 8 rfl (by omega) (by omega) rfl dX3_touch_100 ?_
          refine g_iload_n (pc := 101) hX dX3_touch_101 rfl 1 rfl ?_
          have hh : tHolds (((3, c, g), (a, b, d, e), (M, D), hi, mi, dv) : TS) x = true := by
            exact c69
          have e0 : tTouch (((3, c, g), (a, b, d, e), (M, D), hi, mi, dv) : TS) x = ((sBal c g a b d e x).1, (3, c, (sBal c g a b d e x).2.1), (sBal c g a b d e x).2.2, (M, D), (hi + 1, mi, dv)) := by
            unfold tTouch
            rw [hh]
            rfl
          rw [hh, e0] at hret
          exact hret (v := sHolds 3 a b d x) (u := (upd go t (nI (sBal c g a b d e x).2.1), u64.1, u64.2.1, mk, upd co (3 * t) (hi + 1), u64.2.2)) dX3_touch_102 (⟨by rw [c69], mR_set hMR ht (by rw [← hS]) (by rw [← hS]) pk_us (fun s hs => pk_un hs) hR9 hmk hwe ⟨pk_us, (pk_un (by omega)).trans hco.2.1, (pk_un (by omega)).trans hco.2.2⟩ (fun q hq => pk_un (by omega)), hvi⟩) rfl
      · refine g_aload_n (pc := 52) hX dX3_touch_52 rfl 0 rfl ?_
        refine g_iload_n (pc := 53) hX dX3_touch_53 rfl 1 rfl ?_
        refine g_iload_n (pc := 54) hX dX3_touch_54 rfl 2 rfl ?_
        obtain rfl : pol = 2 := c49
        obtain ⟨had, hb16, rfl⟩ := hI2 rfl
        refine g_ci (pc := 55) hX (wc := [(m, .inr (3, [.ref (am 0), .ref (am 1), .ref (am 2), .ref (am 3), .ref (am 4), .ref (am 5), .ref (am 6), .ref (am 7), .int rd, .int wr, .int (-1)])), (am 0, .inl (K.2.1, 2, .inl po)), (am 1, .inl (K.2.1, 2, .inl ca)), (am 2, .inl (K.2.1, 2, .inl go)), (am 3, .inl (K.2.1, 8, .inl le)), (am 4, .inl (K.2.1, 160, .inl pg)), (am 5, .inl (K.2.2.1, 128, .inl mk)), (am 6, .inl (K.2.2.1, 128, .inl we)), (am 7, .inl (K.2.1, 6, .inl co))]) (wr := []) (Wd' := fun u55 => [(m, .inr (3, [.ref (am 0), .ref (am 1), .ref (am 2), .ref (am 3), .ref (am 4), .ref (am 5), .ref (am 6), .ref (am 7), .int rd, .int wr, .int u55.2.2])), (am 0, .inl (K.2.1, 2, .inl po)), (am 1, .inl (K.2.1, 2, .inl ca)), (am 2, .inl (K.2.1, 2, .inl go)), (am 3, .inl (K.2.1, 8, .inl u55.1)), (am 4, .inl (K.2.1, 160, .inl u55.2.1)), (am 5, .inl (K.2.2.1, 128, .inl mk)), (am 6, .inl (K.2.2.1, 128, .inl we)), (am 7, .inl (K.2.1, 6, .inl co))]) (g_goV (pc := 55) hX (As := [.int (nI t), .int (nI x)]) (stk := []) (wc := [(m, .inr (3, [.ref (am 0), .ref (am 1), .ref (am 2), .ref (am 3), .ref (am 4), .ref (am 5), .ref (am 6), .ref (am 7), .int rd, .int wr, .int (-1)])), (am 0, .inl (K.2.1, 2, .inl po)), (am 1, .inl (K.2.1, 2, .inl ca)), (am 2, .inl (K.2.1, 2, .inl go)), (am 3, .inl (K.2.1, 8, .inl le)), (am 4, .inl (K.2.1, 160, .inl pg)), (am 5, .inl (K.2.2.1, 128, .inl mk)), (am 6, .inl (K.2.2.1, 128, .inl we)), (am 7, .inl (K.2.1, 6, .inl co))]) (c_X3_queues l K m am po ca go le pg mk we co rd wr t ht c a b d [] (rowsF SS) hR hca hc1 hc2 had hb16 x hx) rfl rfl rfl gX3_touch_X3_queues nX3_queuesV rfl 0 rfl ⟨(Nat.le_of_ble_eq_true rfl), (Nat.le_of_ble_eq_true rfl)⟩ [0, 1, 2, 3, 4, 5, 6, 7, 8] rfl rfl rfl (Nat.le_of_ble_eq_true rfl) dX3_touch_55 ⟨(Nat.le_of_ble_eq_true rfl), (Nat.le_of_ble_eq_true rfl)⟩) [0, 1, 2, 3, 4, 5, 6, 7, 8] [] [0, 1, 2, 3, 4, 5, 6, 7, 8] rfl rfl rfl (by decide) rfl (fun _ => rfl) (fun r u55 h55 => ?_)
        obtain ⟨rfl, hR9, hvi⟩ := h55
        refine g_goto (pc := 58) (tgt := 67) hX dX3_touch_58 (by decide) ?_
        refine g_istore_n (pc := 67) (lv' := [(3, .int (bI (sHolds 2 a b d x))), (0, .ref m), (1, .int (nI t)), (2, .int (nI x))]) hX dX3_touch_67 rfl (by decide) rfl ?_
        refine g_iload_n (pc := 68) hX dX3_touch_68 rfl 0 rfl ?_
        refine g_ifB_eq (pc := 69) (tgt := 78) hX dX3_touch_69 (by decide) (fun c69 => ?_) (fun c69 => ?_)
        · refine g_iconst (pc := 78) (v := (nI 3)) hX dX3_touch_78 (by decide) ?_
          refine g_iload_n (pc := 79) hX dX3_touch_79 rfl 2 rfl ?_
          refine g_imulN (pc := 80) (r := 3 * t) hX dX3_touch_80 (by first | rfl | omega) ?_
          refine g_iconst (pc := 81) (v := (nI 1)) hX dX3_touch_81 (by decide) ?_
          refine g_iaddN (pc := 82) (r := (3 * t) + 1) hX dX3_touch_82 (by first | rfl | omega) ?_
          refine g_istore (pc := 83) (lv' := [(4, .int (nI ((3 * t) + 1))), (3, .int (bI (sHolds 2 a b d x))), (0, .ref m), (1, .int (nI t)), (2, .int (nI x))]) hX dX3_touch_83 (by decide) rfl ?_
          refine g_aload_n (pc := 85) hX dX3_touch_85 rfl 2 rfl ?_
          refine g_get (pc := 86) (C := RX3) (T := TX3) (N := 11) (ci := 3) (v := .ref (am 7)) hX inX3_touch_X3 0 rfl rfl 7 (by decide) flX3_touch_32 rfl rfl dX3_touch_86 ?_
          refine g_iload (pc := 89) hX dX3_touch_89 0 rfl ?_
          refine g_aload_n (pc := 91) hX dX3_touch_91 rfl 2 rfl ?_
          refine g_get (pc := 92) (C := RX3) (T := TX3) (N := 11) (ci := 3) (v := .ref (am 7)) hX inX3_touch_X3 0 rfl rfl 7 (by decide) flX3_touch_32 rfl rfl dX3_touch_92 ?_
          refine g_iload (pc := 95) hX dX3_touch_95 0 rfl ?_
          refine g_iald (pc := 97) (v := mi) hX 8 rfl (by omega) (by omega) hco.2.1 dX3_touch_97 ?_
          refine g_iconst (pc := 98) (v := (nI 1)) hX dX3_touch_98 (by decide) ?_
          refine g_iadd (pc := 99) (z := mi + 1) hX dX3_touch_99 rfl ?_
          refine g_iast (pc := 100) (ws' := [(m, .inr (3, [.ref (am 0), .ref (am 1), .ref (am 2), .ref (am 3), .ref (am 4), .ref (am 5), .ref (am 6), .ref (am 7), .int rd, .int wr, .int u55.2.2])), (am 0, .inl (K.2.1, 2, .inl po)), (am 1, .inl (K.2.1, 2, .inl ca)), (am 2, .inl (K.2.1, 2, .inl go)), (am 3, .inl (K.2.1, 8, .inl u55.1)), (am 4, .inl (K.2.1, 160, .inl u55.2.1)), (am 5, .inl (K.2.2.1, 128, .inl mk)), (am 6, .inl (K.2.2.1, 128, .inl we)), (am 7, .inl (K.2.1, 6, .inl (upd co ((3 * t) + 1) (mi + 1))))]) hX 8 rfl (by omega) (by omega) rfl dX3_touch_100 ?_
          refine g_iload_n (pc := 101) hX dX3_touch_101 rfl 1 rfl ?_
          have hh : tHolds (((2, c, g), (a, b, d, []), (M, D), hi, mi, dv) : TS) x = false := by
            exact c69
          have e0 : tTouch (((2, c, g), (a, b, d, []), (M, D), hi, mi, dv) : TS) x = ((sQueues c a b d x).1, (2, c, g), ((sQueues c a b d x).2.1, (sQueues c a b d x).2.2.1, (sQueues c a b d x).2.2.2, []), (M, D), (hi, mi + 1, dv)) := by
            unfold tTouch
            rw [hh]
            rfl
          rw [hh, e0] at hret
          exact hret (v := sHolds 2 a b d x) (u := (go, u55.1, u55.2.1, mk, upd co ((3 * t) + 1) (mi + 1), u55.2.2)) dX3_touch_102 (⟨by rw [c69], mR_set hMR ht (by rw [← hS]) (by rw [← hS]) hgo (fun _ _ => rfl) hR9 hmk hwe ⟨(pk_un (by omega)).trans hco.1, pk_us, (pk_un (by omega)).trans hco.2.2⟩ (fun q hq => pk_un (by omega)), hvi⟩) rfl
        · refine g_iconst (pc := 72) (v := (nI 3)) hX dX3_touch_72 (by decide) ?_
          refine g_iload_n (pc := 73) hX dX3_touch_73 rfl 2 rfl ?_
          refine g_imulN (pc := 74) (r := 3 * t) hX dX3_touch_74 (by first | rfl | omega) ?_
          refine g_goto (pc := 75) (tgt := 83) hX dX3_touch_75 (by decide) ?_
          refine g_istore (pc := 83) (lv' := [(4, .int (nI (3 * t))), (3, .int (bI (sHolds 2 a b d x))), (0, .ref m), (1, .int (nI t)), (2, .int (nI x))]) hX dX3_touch_83 (by decide) rfl ?_
          refine g_aload_n (pc := 85) hX dX3_touch_85 rfl 2 rfl ?_
          refine g_get (pc := 86) (C := RX3) (T := TX3) (N := 11) (ci := 3) (v := .ref (am 7)) hX inX3_touch_X3 0 rfl rfl 7 (by decide) flX3_touch_32 rfl rfl dX3_touch_86 ?_
          refine g_iload (pc := 89) hX dX3_touch_89 0 rfl ?_
          refine g_aload_n (pc := 91) hX dX3_touch_91 rfl 2 rfl ?_
          refine g_get (pc := 92) (C := RX3) (T := TX3) (N := 11) (ci := 3) (v := .ref (am 7)) hX inX3_touch_X3 0 rfl rfl 7 (by decide) flX3_touch_32 rfl rfl dX3_touch_92 ?_
          refine g_iload (pc := 95) hX dX3_touch_95 0 rfl ?_
          refine g_iald (pc := 97) (v := hi) hX 8 rfl (by omega) (by omega) hco.1 dX3_touch_97 ?_
          refine g_iconst (pc := 98) (v := (nI 1)) hX dX3_touch_98 (by decide) ?_
          refine g_iadd (pc := 99) (z := hi + 1) hX dX3_touch_99 rfl ?_
          refine g_iast (pc := 100) (ws' := [(m, .inr (3, [.ref (am 0), .ref (am 1), .ref (am 2), .ref (am 3), .ref (am 4), .ref (am 5), .ref (am 6), .ref (am 7), .int rd, .int wr, .int u55.2.2])), (am 0, .inl (K.2.1, 2, .inl po)), (am 1, .inl (K.2.1, 2, .inl ca)), (am 2, .inl (K.2.1, 2, .inl go)), (am 3, .inl (K.2.1, 8, .inl u55.1)), (am 4, .inl (K.2.1, 160, .inl u55.2.1)), (am 5, .inl (K.2.2.1, 128, .inl mk)), (am 6, .inl (K.2.2.1, 128, .inl we)), (am 7, .inl (K.2.1, 6, .inl (upd co (3 * t) (hi + 1))))]) hX 8 rfl (by omega) (by omega) rfl dX3_touch_100 ?_
          refine g_iload_n (pc := 101) hX dX3_touch_101 rfl 1 rfl ?_
          have hh : tHolds (((2, c, g), (a, b, d, []), (M, D), hi, mi, dv) : TS) x = true := by
            exact c69
          have e0 : tTouch (((2, c, g), (a, b, d, []), (M, D), hi, mi, dv) : TS) x = ((sQueues c a b d x).1, (2, c, g), ((sQueues c a b d x).2.1, (sQueues c a b d x).2.2.1, (sQueues c a b d x).2.2.2, []), (M, D), (hi + 1, mi, dv)) := by
            unfold tTouch
            rw [hh]
            rfl
          rw [hh, e0] at hret
          exact hret (v := sHolds 2 a b d x) (u := (go, u55.1, u55.2.1, mk, upd co (3 * t) (hi + 1), u55.2.2)) dX3_touch_102 (⟨by rw [c69], mR_set hMR ht (by rw [← hS]) (by rw [← hS]) hgo (fun _ _ => rfl) hR9 hmk hwe ⟨pk_us, (pk_un (by omega)).trans hco.2.1, (pk_un (by omega)).trans hco.2.2⟩ (fun q hq => pk_un (by omega)), hvi⟩) rfl
    · refine g_aload_n (pc := 33) hX dX3_touch_33 rfl 0 rfl ?_
      refine g_iload_n (pc := 34) hX dX3_touch_34 rfl 1 rfl ?_
      refine g_iload_n (pc := 35) hX dX3_touch_35 rfl 2 rfl ?_
      obtain rfl : pol = 1 := c30
      obtain ⟨ha, rfl, rfl, rfl⟩ := hI0 (by omega)
      have hMM : va_up (fun s => (SS s).2.2.1.1) t M t = M := va_up_self _ _ _
      refine g_ci (pc := 36) hX (wc := [(m, .inr (3, [.ref (am 0), .ref (am 1), .ref (am 2), .ref (am 3), .ref (am 4), .ref (am 5), .ref (am 6), .ref (am 7), .int rd, .int wr, .int (-1)])), (am 0, .inl (K.2.1, 2, .inl po)), (am 1, .inl (K.2.1, 2, .inl ca)), (am 2, .inl (K.2.1, 2, .inl go)), (am 3, .inl (K.2.1, 8, .inl le)), (am 4, .inl (K.2.1, 160, .inl pg)), (am 5, .inl (K.2.2.1, 128, .inl mk)), (am 6, .inl (K.2.2.1, 128, .inl we)), (am 7, .inl (K.2.1, 6, .inl co))]) (wr := []) (Wd' := fun u36 => [(m, .inr (3, [.ref (am 0), .ref (am 1), .ref (am 2), .ref (am 3), .ref (am 4), .ref (am 5), .ref (am 6), .ref (am 7), .int rd, .int wr, .int u36.2.2.2])), (am 0, .inl (K.2.1, 2, .inl po)), (am 1, .inl (K.2.1, 2, .inl ca)), (am 2, .inl (K.2.1, 2, .inl go)), (am 3, .inl (K.2.1, 8, .inl u36.1)), (am 4, .inl (K.2.1, 160, .inl u36.2.1)), (am 5, .inl (K.2.2.1, 128, .inl u36.2.2.1)), (am 6, .inl (K.2.2.1, 128, .inl we)), (am 7, .inl (K.2.1, 6, .inl co))]) (g_goV (pc := 36) hX (As := [.int (nI t), .int (nI x)]) (stk := []) (wc := [(m, .inr (3, [.ref (am 0), .ref (am 1), .ref (am 2), .ref (am 3), .ref (am 4), .ref (am 5), .ref (am 6), .ref (am 7), .int rd, .int wr, .int (-1)])), (am 0, .inl (K.2.1, 2, .inl po)), (am 1, .inl (K.2.1, 2, .inl ca)), (am 2, .inl (K.2.1, 2, .inl go)), (am 3, .inl (K.2.1, 8, .inl le)), (am 4, .inl (K.2.1, 160, .inl pg)), (am 5, .inl (K.2.2.1, 128, .inl mk)), (am 6, .inl (K.2.2.1, 128, .inl we)), (am 7, .inl (K.2.1, 6, .inl co))]) (c_X3_clock l K m am po ca go le pg mk we co rd wr t ht c a [] [] [] (rowsF SS) hR hca hc1 hc2 ha _ hmk x hx) rfl rfl rfl gX3_touch_X3_clock nX3_clockV rfl 0 rfl ⟨(Nat.le_of_ble_eq_true rfl), (Nat.le_of_ble_eq_true rfl)⟩ [0, 1, 2, 3, 4, 5, 6, 7, 8] rfl rfl rfl (Nat.le_of_ble_eq_true rfl) dX3_touch_36 ⟨(Nat.le_of_ble_eq_true rfl), (Nat.le_of_ble_eq_true rfl)⟩) [0, 1, 2, 3, 4, 5, 6, 7, 8] [] [0, 1, 2, 3, 4, 5, 6, 7, 8] rfl rfl rfl (by decide) rfl (fun _ => rfl) (fun r u36 h36 => ?_)
      obtain ⟨rfl, hR9, hmk9, hvi⟩ := h36
      rw [hMM] at hR9 hmk9 hvi
      rw [va_up_2] at hmk9
      refine g_goto (pc := 39) (tgt := 67) hX dX3_touch_39 (by decide) ?_
      refine g_istore_n (pc := 67) (lv' := [(3, .int (bI (decide (x ∈ a)))), (0, .ref m), (1, .int (nI t)), (2, .int (nI x))]) hX dX3_touch_67 rfl (by decide) rfl ?_
      refine g_iload_n (pc := 68) hX dX3_touch_68 rfl 0 rfl ?_
      refine g_ifB_eq (pc := 69) (tgt := 78) hX dX3_touch_69 (by decide) (fun c69 => ?_) (fun c69 => ?_)
      · refine g_iconst (pc := 78) (v := (nI 3)) hX dX3_touch_78 (by decide) ?_
        refine g_iload_n (pc := 79) hX dX3_touch_79 rfl 2 rfl ?_
        refine g_imulN (pc := 80) (r := 3 * t) hX dX3_touch_80 (by first | rfl | omega) ?_
        refine g_iconst (pc := 81) (v := (nI 1)) hX dX3_touch_81 (by decide) ?_
        refine g_iaddN (pc := 82) (r := (3 * t) + 1) hX dX3_touch_82 (by first | rfl | omega) ?_
        refine g_istore (pc := 83) (lv' := [(4, .int (nI ((3 * t) + 1))), (3, .int (bI (decide (x ∈ a)))), (0, .ref m), (1, .int (nI t)), (2, .int (nI x))]) hX dX3_touch_83 (by decide) rfl ?_
        refine g_aload_n (pc := 85) hX dX3_touch_85 rfl 2 rfl ?_
        refine g_get (pc := 86) (C := RX3) (T := TX3) (N := 11) (ci := 3) (v := .ref (am 7)) hX inX3_touch_X3 0 rfl rfl 7 (by decide) flX3_touch_32 rfl rfl dX3_touch_86 ?_
        refine g_iload (pc := 89) hX dX3_touch_89 0 rfl ?_
        refine g_aload_n (pc := 91) hX dX3_touch_91 rfl 2 rfl ?_
        refine g_get (pc := 92) (C := RX3) (T := TX3) (N := 11) (ci := 3) (v := .ref (am 7)) hX inX3_touch_X3 0 rfl rfl 7 (by decide) flX3_touch_32 rfl rfl dX3_touch_92 ?_
        refine g_iload (pc := 95) hX dX3_touch_95 0 rfl ?_
        refine g_iald (pc := 97) (v := mi) hX 8 rfl (by omega) (by omega) hco.2.1 dX3_touch_97 ?_
        refine g_iconst (pc := 98) (v := (nI 1)) hX dX3_touch_98 (by decide) ?_
        refine g_iadd (pc := 99) (z := mi + 1) hX dX3_touch_99 rfl ?_
        refine g_iast (pc := 100) (ws' := [(m, .inr (3, [.ref (am 0), .ref (am 1), .ref (am 2), .ref (am 3), .ref (am 4), .ref (am 5), .ref (am 6), .ref (am 7), .int rd, .int wr, .int u36.2.2.2])), (am 0, .inl (K.2.1, 2, .inl po)), (am 1, .inl (K.2.1, 2, .inl ca)), (am 2, .inl (K.2.1, 2, .inl go)), (am 3, .inl (K.2.1, 8, .inl u36.1)), (am 4, .inl (K.2.1, 160, .inl u36.2.1)), (am 5, .inl (K.2.2.1, 128, .inl u36.2.2.1)), (am 6, .inl (K.2.2.1, 128, .inl we)), (am 7, .inl (K.2.1, 6, .inl (upd co ((3 * t) + 1) (mi + 1))))]) hX 8 rfl (by omega) (by omega) rfl dX3_touch_100 ?_
        refine g_iload_n (pc := 101) hX dX3_touch_101 rfl 1 rfl ?_
        have hh : tHolds (((1, c, g), (a, [], [], []), (M, D), hi, mi, dv) : TS) x = false := by
          show (decide (x ∈ a) || decide (x ∈ ([] : List Nat))) = false
          rw [c69, mem_nil_f]; rfl
        have e0 : tTouch (((1, c, g), (a, [], [], []), (M, D), hi, mi, dv) : TS) x = ((sClock c a M x).1, (1, c, g), ((sClock c a M x).2.1, [], [], []), ((sClock c a M x).2.2, D), (hi, mi + 1, dv)) := by
          unfold tTouch
          rw [hh]
          rfl
        rw [hh, e0] at hret
        exact hret (v := decide (x ∈ a)) (u := (go, u36.1, u36.2.1, u36.2.2.1, upd co ((3 * t) + 1) (mi + 1), u36.2.2.2)) dX3_touch_102 (⟨by rw [c69], mR_set hMR ht (by rw [← hS]) (by rw [← hS]) hgo (fun _ _ => rfl) hR9 hmk9 hwe ⟨(pk_un (by omega)).trans hco.1, pk_us, (pk_un (by omega)).trans hco.2.2⟩ (fun q hq => pk_un (by omega)), hvi⟩) rfl
      · refine g_iconst (pc := 72) (v := (nI 3)) hX dX3_touch_72 (by decide) ?_
        refine g_iload_n (pc := 73) hX dX3_touch_73 rfl 2 rfl ?_
        refine g_imulN (pc := 74) (r := 3 * t) hX dX3_touch_74 (by first | rfl | omega) ?_
        refine g_goto (pc := 75) (tgt := 83) hX dX3_touch_75 (by decide) ?_
        refine g_istore (pc := 83) (lv' := [(4, .int (nI (3 * t))), (3, .int (bI (decide (x ∈ a)))), (0, .ref m), (1, .int (nI t)), (2, .int (nI x))]) hX dX3_touch_83 (by decide) rfl ?_
        refine g_aload_n (pc := 85) hX dX3_touch_85 rfl 2 rfl ?_
        refine g_get (pc := 86) (C := RX3) (T := TX3) (N := 11) (ci := 3) (v := .ref (am 7)) hX inX3_touch_X3 0 rfl rfl 7 (by decide) flX3_touch_32 rfl rfl dX3_touch_86 ?_
        refine g_iload (pc := 89) hX dX3_touch_89 0 rfl ?_
        refine g_aload_n (pc := 91) hX dX3_touch_91 rfl 2 rfl ?_
        refine g_get (pc := 92) (C := RX3) (T := TX3) (N := 11) (ci := 3) (v := .ref (am 7)) hX inX3_touch_X3 0 rfl rfl 7 (by decide) flX3_touch_32 rfl rfl dX3_touch_92 ?_
        refine g_iload (pc := 95) hX dX3_touch_95 0 rfl ?_
        refine g_iald (pc := 97) (v := hi) hX 8 rfl (by omega) (by omega) hco.1 dX3_touch_97 ?_
        refine g_iconst (pc := 98) (v := (nI 1)) hX dX3_touch_98 (by decide) ?_
        refine g_iadd (pc := 99) (z := hi + 1) hX dX3_touch_99 rfl ?_
        refine g_iast (pc := 100) (ws' := [(m, .inr (3, [.ref (am 0), .ref (am 1), .ref (am 2), .ref (am 3), .ref (am 4), .ref (am 5), .ref (am 6), .ref (am 7), .int rd, .int wr, .int u36.2.2.2])), (am 0, .inl (K.2.1, 2, .inl po)), (am 1, .inl (K.2.1, 2, .inl ca)), (am 2, .inl (K.2.1, 2, .inl go)), (am 3, .inl (K.2.1, 8, .inl u36.1)), (am 4, .inl (K.2.1, 160, .inl u36.2.1)), (am 5, .inl (K.2.2.1, 128, .inl u36.2.2.1)), (am 6, .inl (K.2.2.1, 128, .inl we)), (am 7, .inl (K.2.1, 6, .inl (upd co (3 * t) (hi + 1))))]) hX 8 rfl (by omega) (by omega) rfl dX3_touch_100 ?_
        refine g_iload_n (pc := 101) hX dX3_touch_101 rfl 1 rfl ?_
        have hh : tHolds (((1, c, g), (a, [], [], []), (M, D), hi, mi, dv) : TS) x = true := by
          show (decide (x ∈ a) || decide (x ∈ ([] : List Nat))) = true
          rw [c69, mem_nil_f]; rfl
        have e0 : tTouch (((1, c, g), (a, [], [], []), (M, D), hi, mi, dv) : TS) x = ((sClock c a M x).1, (1, c, g), ((sClock c a M x).2.1, [], [], []), ((sClock c a M x).2.2, D), (hi + 1, mi, dv)) := by
          unfold tTouch
          rw [hh]
          rfl
        rw [hh, e0] at hret
        exact hret (v := decide (x ∈ a)) (u := (go, u36.1, u36.2.1, u36.2.2.1, upd co (3 * t) (hi + 1), u36.2.2.2)) dX3_touch_102 (⟨by rw [c69], mR_set hMR ht (by rw [← hS]) (by rw [← hS]) hgo (fun _ _ => rfl) hR9 hmk9 hwe ⟨pk_us, (pk_un (by omega)).trans hco.2.1, (pk_un (by omega)).trans hco.2.2⟩ (fun q hq => pk_un (by omega)), hvi⟩) rfl
  · refine g_aload_n (pc := 14) hX dX3_touch_14 rfl 0 rfl ?_
    refine g_iload_n (pc := 15) hX dX3_touch_15 rfl 1 rfl ?_
    refine g_iload_n (pc := 16) hX dX3_touch_16 rfl 2 rfl ?_
    obtain rfl : pol = 0 := c11
    obtain ⟨ha, rfl, rfl, rfl⟩ := hI0 (by omega)
    refine g_ci (pc := 17) hX (wc := [(m, .inr (3, [.ref (am 0), .ref (am 1), .ref (am 2), .ref (am 3), .ref (am 4), .ref (am 5), .ref (am 6), .ref (am 7), .int rd, .int wr, .int (-1)])), (am 0, .inl (K.2.1, 2, .inl po)), (am 1, .inl (K.2.1, 2, .inl ca)), (am 2, .inl (K.2.1, 2, .inl go)), (am 3, .inl (K.2.1, 8, .inl le)), (am 4, .inl (K.2.1, 160, .inl pg)), (am 5, .inl (K.2.2.1, 128, .inl mk)), (am 6, .inl (K.2.2.1, 128, .inl we)), (am 7, .inl (K.2.1, 6, .inl co))]) (wr := []) (Wd' := fun u17 => [(m, .inr (3, [.ref (am 0), .ref (am 1), .ref (am 2), .ref (am 3), .ref (am 4), .ref (am 5), .ref (am 6), .ref (am 7), .int rd, .int wr, .int u17.2.2])), (am 0, .inl (K.2.1, 2, .inl po)), (am 1, .inl (K.2.1, 2, .inl ca)), (am 2, .inl (K.2.1, 2, .inl go)), (am 3, .inl (K.2.1, 8, .inl u17.1)), (am 4, .inl (K.2.1, 160, .inl u17.2.1)), (am 5, .inl (K.2.2.1, 128, .inl mk)), (am 6, .inl (K.2.2.1, 128, .inl we)), (am 7, .inl (K.2.1, 6, .inl co))]) (g_goV (pc := 17) hX (As := [.int (nI t), .int (nI x)]) (stk := []) (wc := [(m, .inr (3, [.ref (am 0), .ref (am 1), .ref (am 2), .ref (am 3), .ref (am 4), .ref (am 5), .ref (am 6), .ref (am 7), .int rd, .int wr, .int (-1)])), (am 0, .inl (K.2.1, 2, .inl po)), (am 1, .inl (K.2.1, 2, .inl ca)), (am 2, .inl (K.2.1, 2, .inl go)), (am 3, .inl (K.2.1, 8, .inl le)), (am 4, .inl (K.2.1, 160, .inl pg)), (am 5, .inl (K.2.2.1, 128, .inl mk)), (am 6, .inl (K.2.2.1, 128, .inl we)), (am 7, .inl (K.2.1, 6, .inl co))]) (c_X3_recent l K m am po ca go le pg mk we co rd wr t ht c a [] [] [] (rowsF SS) hR hca hc1 hc2 ha x hx) rfl rfl rfl gX3_touch_X3_recent nX3_recentV rfl 0 rfl ⟨(Nat.le_of_ble_eq_true rfl), (Nat.le_of_ble_eq_true rfl)⟩ [0, 1, 2, 3, 4, 5, 6, 7, 8] rfl rfl rfl (Nat.le_of_ble_eq_true rfl) dX3_touch_17 ⟨(Nat.le_of_ble_eq_true rfl), (Nat.le_of_ble_eq_true rfl)⟩) [0, 1, 2, 3, 4, 5, 6, 7, 8] [] [0, 1, 2, 3, 4, 5, 6, 7, 8] rfl rfl rfl (by decide) rfl (fun _ => rfl) (fun r u17 h17 => ?_)
    obtain ⟨rfl, hR9, hvi⟩ := h17
    refine g_goto (pc := 20) (tgt := 67) hX dX3_touch_20 (by decide) ?_
    refine g_istore_n (pc := 67) (lv' := [(3, .int (bI (decide (x ∈ a)))), (0, .ref m), (1, .int (nI t)), (2, .int (nI x))]) hX dX3_touch_67 rfl (by decide) rfl ?_
    refine g_iload_n (pc := 68) hX dX3_touch_68 rfl 0 rfl ?_
    refine g_ifB_eq (pc := 69) (tgt := 78) hX dX3_touch_69 (by decide) (fun c69 => ?_) (fun c69 => ?_)
    · refine g_iconst (pc := 78) (v := (nI 3)) hX dX3_touch_78 (by decide) ?_
      refine g_iload_n (pc := 79) hX dX3_touch_79 rfl 2 rfl ?_
      refine g_imulN (pc := 80) (r := 3 * t) hX dX3_touch_80 (by first | rfl | omega) ?_
      refine g_iconst (pc := 81) (v := (nI 1)) hX dX3_touch_81 (by decide) ?_
      refine g_iaddN (pc := 82) (r := (3 * t) + 1) hX dX3_touch_82 (by first | rfl | omega) ?_
      refine g_istore (pc := 83) (lv' := [(4, .int (nI ((3 * t) + 1))), (3, .int (bI (decide (x ∈ a)))), (0, .ref m), (1, .int (nI t)), (2, .int (nI x))]) hX dX3_touch_83 (by decide) rfl ?_
      refine g_aload_n (pc := 85) hX dX3_touch_85 rfl 2 rfl ?_
      refine g_get (pc := 86) (C := RX3) (T := TX3) (N := 11) (ci := 3) (v := .ref (am 7)) hX inX3_touch_X3 0 rfl rfl 7 (by decide) flX3_touch_32 rfl rfl dX3_touch_86 ?_
      refine g_iload (pc := 89) hX dX3_touch_89 0 rfl ?_
      refine g_aload_n (pc := 91) hX dX3_touch_91 rfl 2 rfl ?_
      refine g_get (pc := 92) (C := RX3) (T := TX3) (N := 11) (ci := 3) (v := .ref (am 7)) hX inX3_touch_X3 0 rfl rfl 7 (by decide) flX3_touch_32 rfl rfl dX3_touch_92 ?_
      refine g_iload (pc := 95) hX dX3_touch_95 0 rfl ?_
      refine g_iald (pc := 97) (v := mi) hX 8 rfl (by omega) (by omega) hco.2.1 dX3_touch_97 ?_
      refine g_iconst (pc := 98) (v := (nI 1)) hX dX3_touch_98 (by decide) ?_
      refine g_iadd (pc := 99) (z := mi + 1) hX dX3_touch_99 rfl ?_
      refine g_iast (pc := 100) (ws' := [(m, .inr (3, [.ref (am 0), .ref (am 1), .ref (am 2), .ref (am 3), .ref (am 4), .ref (am 5), .ref (am 6), .ref (am 7), .int rd, .int wr, .int u17.2.2])), (am 0, .inl (K.2.1, 2, .inl po)), (am 1, .inl (K.2.1, 2, .inl ca)), (am 2, .inl (K.2.1, 2, .inl go)), (am 3, .inl (K.2.1, 8, .inl u17.1)), (am 4, .inl (K.2.1, 160, .inl u17.2.1)), (am 5, .inl (K.2.2.1, 128, .inl mk)), (am 6, .inl (K.2.2.1, 128, .inl we)), (am 7, .inl (K.2.1, 6, .inl (upd co ((3 * t) + 1) (mi + 1))))]) hX 8 rfl (by omega) (by omega) rfl dX3_touch_100 ?_
      refine g_iload_n (pc := 101) hX dX3_touch_101 rfl 1 rfl ?_
      have hh : tHolds (((0, c, g), (a, [], [], []), (M, D), hi, mi, dv) : TS) x = false := by
        show (decide (x ∈ a) || decide (x ∈ ([] : List Nat))) = false
        rw [c69, mem_nil_f]; rfl
      have e0 : tTouch (((0, c, g), (a, [], [], []), (M, D), hi, mi, dv) : TS) x = ((sRecent c a x).1, (0, c, g), ((sRecent c a x).2, [], [], []), (M, D), (hi, mi + 1, dv)) := by
        unfold tTouch
        rw [hh]
        rfl
      rw [hh, e0] at hret
      exact hret (v := decide (x ∈ a)) (u := (go, u17.1, u17.2.1, mk, upd co ((3 * t) + 1) (mi + 1), u17.2.2)) dX3_touch_102 (⟨by rw [c69], mR_set hMR ht (by rw [← hS]) (by rw [← hS]) hgo (fun _ _ => rfl) hR9 hmk hwe ⟨(pk_un (by omega)).trans hco.1, pk_us, (pk_un (by omega)).trans hco.2.2⟩ (fun q hq => pk_un (by omega)), hvi⟩) rfl
    · refine g_iconst (pc := 72) (v := (nI 3)) hX dX3_touch_72 (by decide) ?_
      refine g_iload_n (pc := 73) hX dX3_touch_73 rfl 2 rfl ?_
      refine g_imulN (pc := 74) (r := 3 * t) hX dX3_touch_74 (by first | rfl | omega) ?_
      refine g_goto (pc := 75) (tgt := 83) hX dX3_touch_75 (by decide) ?_
      refine g_istore (pc := 83) (lv' := [(4, .int (nI (3 * t))), (3, .int (bI (decide (x ∈ a)))), (0, .ref m), (1, .int (nI t)), (2, .int (nI x))]) hX dX3_touch_83 (by decide) rfl ?_
      refine g_aload_n (pc := 85) hX dX3_touch_85 rfl 2 rfl ?_
      refine g_get (pc := 86) (C := RX3) (T := TX3) (N := 11) (ci := 3) (v := .ref (am 7)) hX inX3_touch_X3 0 rfl rfl 7 (by decide) flX3_touch_32 rfl rfl dX3_touch_86 ?_
      refine g_iload (pc := 89) hX dX3_touch_89 0 rfl ?_
      refine g_aload_n (pc := 91) hX dX3_touch_91 rfl 2 rfl ?_
      refine g_get (pc := 92) (C := RX3) (T := TX3) (N := 11) (ci := 3) (v := .ref (am 7)) hX inX3_touch_X3 0 rfl rfl 7 (by decide) flX3_touch_32 rfl rfl dX3_touch_92 ?_
      refine g_iload (pc := 95) hX dX3_touch_95 0 rfl ?_
      refine g_iald (pc := 97) (v := hi) hX 8 rfl (by omega) (by omega) hco.1 dX3_touch_97 ?_
      refine g_iconst (pc := 98) (v := (nI 1)) hX dX3_touch_98 (by decide) ?_
      refine g_iadd (pc := 99) (z := hi + 1) hX dX3_touch_99 rfl ?_
      refine g_iast (pc := 100) (ws' := [(m, .inr (3, [.ref (am 0), .ref (am 1), .ref (am 2), .ref (am 3), .ref (am 4), .ref (am 5), .ref (am 6), .ref (am 7), .int rd, .int wr, .int u17.2.2])), (am 0, .inl (K.2.1, 2, .inl po)), (am 1, .inl (K.2.1, 2, .inl ca)), (am 2, .inl (K.2.1, 2, .inl go)), (am 3, .inl (K.2.1, 8, .inl u17.1)), (am 4, .inl (K.2.1, 160, .inl u17.2.1)), (am 5, .inl (K.2.2.1, 128, .inl mk)), (am 6, .inl (K.2.2.1, 128, .inl we)), (am 7, .inl (K.2.1, 6, .inl (upd co (3 * t) (hi + 1))))]) hX 8 rfl (by omega) (by omega) rfl dX3_touch_100 ?_
      refine g_iload_n (pc := 101) hX dX3_touch_101 rfl 1 rfl ?_
      have hh : tHolds (((0, c, g), (a, [], [], []), (M, D), hi, mi, dv) : TS) x = true := by
        show (decide (x ∈ a) || decide (x ∈ ([] : List Nat))) = true
        rw [c69, mem_nil_f]; rfl
      have e0 : tTouch (((0, c, g), (a, [], [], []), (M, D), hi, mi, dv) : TS) x = ((sRecent c a x).1, (0, c, g), ((sRecent c a x).2, [], [], []), (M, D), (hi + 1, mi, dv)) := by
        unfold tTouch
        rw [hh]
        rfl
      rw [hh, e0] at hret
      exact hret (v := decide (x ∈ a)) (u := (go, u17.1, u17.2.1, mk, upd co (3 * t) (hi + 1), u17.2.2)) dX3_touch_102 (⟨by rw [c69], mR_set hMR ht (by rw [← hS]) (by rw [← hS]) hgo (fun _ _ => rfl) hR9 hmk hwe ⟨pk_us, (pk_un (by omega)).trans hco.2.1, (pk_un (by omega)).trans hco.2.2⟩ (fun q hq => pk_un (by omega)), hvi⟩) rfl
abbrev rmX3_dries : Room := { frames := 0, cells := 0, slots := 0, locals := 0 }
theorem flX3_dries_29 : Cond.fieldLink RX3 29 "TwoTierCacheModel" "wet" "[Z" ∈ wsX3_dries := by decide +kernel
theorem inX3_dries_X3 : ∀ w ∈ u_ws RX3 TX3 11, w ∈ wsX3_dries := by decide +kernel
theorem flX3_dries_32 : Cond.fieldLink RX3 32 "TwoTierCacheModel" "counts" "[I" ∈ wsX3_dries := by decide +kernel
set_option maxHeartbeats 4000000 in
set_option maxRecDepth 100000 in
/-- dries -/
theorem c_X3_dries (l : Launch) (K : gT) (m : Nat) (am : Nat → Nat) (po ca go le pg mk we co : Nat → Int32) (rd wr vi : Int32) (SS : Nat → TS) (hMR : mR SS po ca go le pg mk we co) (t : Nat) (ht : t < 2) (o : Option Nat) (ho : ∀ p, o = some p → p < 64) : Ci l yX3_dries wsX3_dries rmX3_dries K [.ref m, .int (nI t), .int (pI o)] (mW K m am po ca go le pg mk we co rd wr vi) (fun (r : Int32) (u : (Nat → Int32) × (Nat → Int32)) => r = bI (tVic (SS t) o).1 ∧ mR (va_up SS t (tVic (SS t) o).2) po ca go le pg mk u.1 u.2) (fun u => mW K m am po ca go le pg mk u.1 u.2 rd wr vi) 0 0 := by
  refine m_z (cc := cX3_dries) (own := RX3) (maxL := 4) (lv0 := [(0, .ref m), (1, .int (nI t)), (2, .int (pI o))]) (by decide) rfl rfl (Nat.le_of_ble_eq_true rfl) rfl ?_
  intro X hX hin hret
  refine g_ws (ws' := [(m, .inr (3, [.ref (am 0), .ref (am 1), .ref (am 2), .ref (am 3), .ref (am 4), .ref (am 5), .ref (am 6), .ref (am 7), .int rd, .int wr, .int vi])), (am 0, .inl (K.2.1, 2, .inl po)), (am 1, .inl (K.2.1, 2, .inl ca)), (am 2, .inl (K.2.1, 2, .inl go)), (am 3, .inl (K.2.1, 8, .inl le)), (am 4, .inl (K.2.1, 160, .inl pg)), (am 5, .inl (K.2.2.1, 128, .inl mk)), (am 6, .inl (K.2.2.1, 128, .inl we)), (am 7, .inl (K.2.1, 6, .inl co))]) rfl ?_
  obtain ⟨⟨⟨pol, c, g⟩, ⟨a, b, d, e⟩, ⟨M, D⟩, hi, mi, dv⟩, hS⟩ : ∃ S : TS, S = SS t := ⟨_, rfl⟩
  rw [← hS] at hret
  have hpo : po t = nI pol := by rw [hMR.1 t ht, ← hS]
  have hca : ca t = nI c := by rw [hMR.2.1 t ht, ← hS]
  have hgo : go t = nI g := by rw [hMR.2.2.1 t ht, ← hS]
  have hR : rowsR le pg (rr t a b d e (rowsF SS)) := hMR.row hS
  have hmk : zR mk (va_up (fun s => (SS s).2.2.1.1) t M) := hMR.mk hS
  have hwe : zR we (va_up (fun s => (SS s).2.2.1.2) t D) := hMR.we hS
  have hco : co (3 * t) = hi ∧ co (3 * t + 1) = mi ∧ co (3 * t + 2) = dv := by have k := hMR.2.2.2.2.2.2 t ht; rw [← hS] at k; exact k
  cases o with
  | none =>
    refine g_lv (lv' := [(0, .ref m), (1, .int (nI t)), (2, .int (-1))]) rfl ?_
    refine g_iload_n (pc := 0) hX dX3_dries_0 rfl 2 rfl ?_
    refine g_if_lt (pc := 1) (tgt := 22) hX dX3_dries_1 (by decide) (fun c1 => ?_) (fun c1 => absurd c1 (fun q => q (by decide)))
    refine g_iconst (pc := 22) (v := (nI 0)) hX dX3_dries_22 (by decide) ?_
    refine g_istore_n (pc := 23) (lv' := [(3, .int (nI 0)), (0, .ref m), (1, .int (nI t)), (2, .int (-1))]) hX dX3_dries_23 rfl (by decide) rfl ?_
    refine g_iload_n (pc := 24) hX dX3_dries_24 rfl 0 rfl ?_
    refine g_ifN_eq (pc := 25) (tgt := 62) hX (by omega) dX3_dries_25 (by decide) (fun c25 => ?_) (fun c25 => absurd c25 (by omega))
    refine g_iload_n (pc := 62) hX dX3_dries_62 rfl 0 rfl ?_
    refine g_top (y := bI false) (by decide) ?_
    have e0 : tVic (((pol, c, g), (a, b, d, e), (M, D), hi, mi, dv) : TS) none = (false, (((pol, c, g), (a, b, d, e), (M, D), hi, mi, dv) : TS)) := rfl
    rw [e0] at hret
    exact hret (v := false) (u := (we, co)) dX3_dries_63 (⟨rfl, by rw [hS, va_up_id SS t]; exact hMR⟩) rfl
  | some p =>
    refine g_lv (lv' := [(0, .ref m), (1, .int (nI t)), (2, .int (nI p))]) rfl ?_
    have hp : p < 64 := ho p rfl
    refine g_iload_n (pc := 0) hX dX3_dries_0 rfl 2 rfl ?_
    refine g_ifN_lt (pc := 1) (tgt := 22) hX (by omega) dX3_dries_1 (by decide) (fun c1 => absurd c1 (by omega)) (fun c1 => ?_)
    refine g_aload_n (pc := 4) hX dX3_dries_4 rfl 0 rfl ?_
    refine g_get (pc := 5) (C := RX3) (T := TX3) (N := 11) (ci := 3) (v := .ref (am 6)) hX inX3_dries_X3 0 rfl rfl 6 (by decide) flX3_dries_29 rfl rfl dX3_dries_5 ?_
    refine g_bipush (pc := 8) (v := (nI 64)) hX dX3_dries_8 (by decide) ?_
    refine g_iload_n (pc := 10) hX dX3_dries_10 rfl 1 rfl ?_
    refine g_imulN (pc := 11) (r := 64 * t) hX dX3_dries_11 (by first | rfl | omega) ?_
    refine g_iload_n (pc := 12) hX dX3_dries_12 rfl 2 rfl ?_
    refine g_iaddN (pc := 13) (r := (64 * t) + p) hX dX3_dries_13 (by first | rfl | omega) ?_
    refine g_zald (pc := 14) (v := (bI (D p))) hX 7 rfl (by omega) (by omega) ((hwe.at ht hp).trans (by rw [va_up_self])) dX3_dries_14 ?_
    refine g_ifB_eq (pc := 15) (tgt := 22) hX dX3_dries_15 (by decide) (fun c15 => ?_) (fun c15 => ?_)
    · refine g_iconst (pc := 22) (v := (nI 0)) hX dX3_dries_22 (by decide) ?_
      refine g_istore_n (pc := 23) (lv' := [(3, .int (nI 0)), (0, .ref m), (1, .int (nI t)), (2, .int (nI p))]) hX dX3_dries_23 rfl (by decide) rfl ?_
      refine g_iload_n (pc := 24) hX dX3_dries_24 rfl 0 rfl ?_
      refine g_ifN_eq (pc := 25) (tgt := 62) hX (by omega) dX3_dries_25 (by decide) (fun c25 => ?_) (fun c25 => absurd c25 (by omega))
      refine g_iload_n (pc := 62) hX dX3_dries_62 rfl 0 rfl ?_
      refine g_top (y := bI false) (by decide) ?_
      have e0 : tVic (((pol, c, g), (a, b, d, e), (M, D), hi, mi, dv) : TS) (some p) = (false, (((pol, c, g), (a, b, d, e), (M, D), hi, mi, dv) : TS)) := if_neg (by show ¬ (D p = true); rw [c15]; decide)
      rw [e0] at hret
      exact hret (v := false) (u := (we, co)) dX3_dries_63 (⟨rfl, by rw [hS, va_up_id SS t]; exact hMR⟩) rfl
    · refine g_iconst (pc := 18) (v := (nI 1)) hX dX3_dries_18 (by decide) ?_
      refine g_goto (pc := 19) (tgt := 23) hX dX3_dries_19 (by decide) ?_
      refine g_istore_n (pc := 23) (lv' := [(3, .int (nI 1)), (0, .ref m), (1, .int (nI t)), (2, .int (nI p))]) hX dX3_dries_23 rfl (by decide) rfl ?_
      refine g_iload_n (pc := 24) hX dX3_dries_24 rfl 0 rfl ?_
      refine g_ifN_eq (pc := 25) (tgt := 62) hX (by omega) dX3_dries_25 (by decide) (fun c25 => absurd c25 (by omega)) (fun c25 => ?_)
      refine g_aload_n (pc := 28) hX dX3_dries_28 rfl 1 rfl ?_
      refine g_get (pc := 29) (C := RX3) (T := TX3) (N := 11) (ci := 3) (v := .ref (am 6)) hX inX3_dries_X3 0 rfl rfl 6 (by decide) flX3_dries_29 rfl rfl dX3_dries_29 ?_
      refine g_bipush (pc := 32) (v := (nI 64)) hX dX3_dries_32 (by decide) ?_
      refine g_iload_n (pc := 34) hX dX3_dries_34 rfl 2 rfl ?_
      refine g_imulN (pc := 35) (r := 64 * t) hX dX3_dries_35 (by first | rfl | omega) ?_
      refine g_iload_n (pc := 36) hX dX3_dries_36 rfl 3 rfl ?_
      refine g_iaddN (pc := 37) (r := (64 * t) + p) hX dX3_dries_37 (by first | rfl | omega) ?_
      refine g_iconst (pc := 38) (v := (nI 0)) hX dX3_dries_38 (by decide) ?_
      refine g_zast (pc := 39) (ws' := [(m, .inr (3, [.ref (am 0), .ref (am 1), .ref (am 2), .ref (am 3), .ref (am 4), .ref (am 5), .ref (am 6), .ref (am 7), .int rd, .int wr, .int vi])), (am 0, .inl (K.2.1, 2, .inl po)), (am 1, .inl (K.2.1, 2, .inl ca)), (am 2, .inl (K.2.1, 2, .inl go)), (am 3, .inl (K.2.1, 8, .inl le)), (am 4, .inl (K.2.1, 160, .inl pg)), (am 5, .inl (K.2.2.1, 128, .inl mk)), (am 6, .inl (K.2.2.1, 128, .inl (upd we ((64 * t) + p) (nI 0)))), (am 7, .inl (K.2.1, 6, .inl co))]) hX 7 rfl (by omega) (by omega) (by decide) rfl dX3_dries_39 ?_
      refine g_aload_n (pc := 40) hX dX3_dries_40 rfl 1 rfl ?_
      refine g_get (pc := 41) (C := RX3) (T := TX3) (N := 11) (ci := 3) (v := .ref (am 7)) hX inX3_dries_X3 0 rfl rfl 7 (by decide) flX3_dries_32 rfl rfl dX3_dries_41 ?_
      refine g_iconst (pc := 44) (v := (nI 3)) hX dX3_dries_44 (by decide) ?_
      refine g_iload_n (pc := 45) hX dX3_dries_45 rfl 2 rfl ?_
      refine g_imulN (pc := 46) (r := 3 * t) hX dX3_dries_46 (by first | rfl | omega) ?_
      refine g_iconst (pc := 47) (v := (nI 2)) hX dX3_dries_47 (by decide) ?_
      refine g_iaddN (pc := 48) (r := (3 * t) + 2) hX dX3_dries_48 (by first | rfl | omega) ?_
      refine g_aload_n (pc := 49) hX dX3_dries_49 rfl 1 rfl ?_
      refine g_get (pc := 50) (C := RX3) (T := TX3) (N := 11) (ci := 3) (v := .ref (am 7)) hX inX3_dries_X3 0 rfl rfl 7 (by decide) flX3_dries_32 rfl rfl dX3_dries_50 ?_
      refine g_iconst (pc := 53) (v := (nI 3)) hX dX3_dries_53 (by decide) ?_
      refine g_iload_n (pc := 54) hX dX3_dries_54 rfl 2 rfl ?_
      refine g_imulN (pc := 55) (r := 3 * t) hX dX3_dries_55 (by first | rfl | omega) ?_
      refine g_iconst (pc := 56) (v := (nI 2)) hX dX3_dries_56 (by decide) ?_
      refine g_iaddN (pc := 57) (r := (3 * t) + 2) hX dX3_dries_57 (by first | rfl | omega) ?_
      refine g_iald (pc := 58) (v := dv) hX 8 rfl (by omega) (by omega) hco.2.2 dX3_dries_58 ?_
      refine g_iconst (pc := 59) (v := (nI 1)) hX dX3_dries_59 (by decide) ?_
      refine g_iadd (pc := 60) (z := dv + 1) hX dX3_dries_60 rfl ?_
      refine g_iast (pc := 61) (ws' := [(m, .inr (3, [.ref (am 0), .ref (am 1), .ref (am 2), .ref (am 3), .ref (am 4), .ref (am 5), .ref (am 6), .ref (am 7), .int rd, .int wr, .int vi])), (am 0, .inl (K.2.1, 2, .inl po)), (am 1, .inl (K.2.1, 2, .inl ca)), (am 2, .inl (K.2.1, 2, .inl go)), (am 3, .inl (K.2.1, 8, .inl le)), (am 4, .inl (K.2.1, 160, .inl pg)), (am 5, .inl (K.2.2.1, 128, .inl mk)), (am 6, .inl (K.2.2.1, 128, .inl (upd we ((64 * t) + p) (nI 0)))), (am 7, .inl (K.2.1, 6, .inl (upd co ((3 * t) + 2) (dv + 1))))]) hX 8 rfl (by omega) (by omega) rfl dX3_dries_61 ?_
      refine g_iload_n (pc := 62) hX dX3_dries_62 rfl 0 rfl ?_
      refine g_top (y := bI true) (by decide) ?_
      have e0 : tVic (((pol, c, g), (a, b, d, e), (M, D), hi, mi, dv) : TS) (some p) = (true, ((pol, c, g), (a, b, d, e), (M, setB D p false), (hi, mi, dv + 1))) := if_pos c15
      rw [e0] at hret
      have hw9 := hwe.set ht hp false
      rw [va_up_self, va_up_2] at hw9
      exact hret (v := true) (u := (upd we ((64 * t) + p) (nI 0), upd co ((3 * t) + 2) (dv + 1))) dX3_dries_63 (⟨rfl, mR_set hMR ht (by rw [← hS]) (by rw [← hS]) hgo (fun _ _ => rfl) hR hmk hw9 ⟨(pk_un (by omega)).trans hco.1, (pk_un (by omega)).trans hco.2.1, pk_us⟩ (fun q hq => pk_un (by omega))⟩) rfl
abbrev rmX3_askLower : Room := { frames := 6, cells := 0, slots := 0, locals := 147 }
theorem nX3_touchV : yX3_touch.cls = RX3 ∧ yX3_touch.cls ≠ "java/lang/invoke/MethodHandle" ∧ yX3_touch.cls ≠ "java/lang/invoke/VarHandle" ∧ (parseMethodDescriptor yX3_touch.desc).map (fun d => d.parameters.length) = some 2 := by decide +kernel
theorem flX3_askLower_35 : Cond.fieldLink RX3 35 "TwoTierCacheModel" "reads" "I" ∈ wsX3_askLower := by decide +kernel
theorem inX3_askLower_X3 : ∀ w ∈ u_ws RX3 TX3 11, w ∈ wsX3_askLower := by decide +kernel
theorem flX3_askLower_65 : Cond.fieldLink RX3 65 "TwoTierCacheModel" "victim" "I" ∈ wsX3_askLower := by decide +kernel
theorem nX3_driesV : yX3_dries.cls = RX3 ∧ yX3_dries.cls ≠ "java/lang/invoke/MethodHandle" ∧ yX3_dries.cls ≠ "java/lang/invoke/VarHandle" ∧ (parseMethodDescriptor yX3_dries.desc).map (fun d => d.parameters.length) = some 2 := by decide +kernel
theorem flX3_askLower_39 : Cond.fieldLink RX3 39 "TwoTierCacheModel" "writes" "I" ∈ wsX3_askLower := by decide +kernel
theorem flX3_askLower_29 : Cond.fieldLink RX3 29 "TwoTierCacheModel" "wet" "[Z" ∈ wsX3_askLower := by decide +kernel
set_option maxHeartbeats 4000000 in
set_option maxRecDepth 100000 in
/-- askLower -/
theorem c_X3_askLower (l : Launch) (K : gT) (m : Nat) (am : Nat → Nat) (po ca go le pg mk we co : Nat → Int32) (rd wr vi : Int32) (U L : TS) (hM : mR (sF U L) po ca go le pg mk we co) (iU : tInv U) (iL : tInv L) (x : Nat) (hx : x < 64) (w : Bool) : Ci l yX3_askLower wsX3_askLower rmX3_askLower K [.ref m, .int (nI x), .int (bI w)] (mW K m am po ca go le pg mk we co rd wr vi) (fun (r : Int32) (u : (Nat → Int32) × (Nat → Int32) × (Nat → Int32) × (Nat → Int32) × (Nat → Int32) × (Nat → Int32) × Int32) => r = bI (cAsk (U, L, rd, wr) x w).1 ∧ mR (sF U ((cAsk (U, L, rd, wr) x w).2.2.1)) po ca u.1 u.2.1 u.2.2.1 u.2.2.2.1 u.2.2.2.2.1 u.2.2.2.2.2.1 ∧ tInv (cAsk (U, L, rd, wr) x w).2.2.1) (fun u => mW K m am po ca u.1 u.2.1 u.2.2.1 u.2.2.2.1 u.2.2.2.2.1 u.2.2.2.2.2.1 ((cAsk (U, L, rd, wr) x w).2.2.2.1) ((cAsk (U, L, rd, wr) x w).2.2.2.2) u.2.2.2.2.2.2) 0 0 := by
  refine m_z (cc := cX3_askLower) (own := RX3) (maxL := 4) (lv0 := [(0, .ref m), (1, .int (nI x)), (2, .int (bI w))]) (by decide) rfl rfl (Nat.le_of_ble_eq_true rfl) rfl ?_
  intro X hX hin hret
  refine g_ws (ws' := [(m, .inr (3, [.ref (am 0), .ref (am 1), .ref (am 2), .ref (am 3), .ref (am 4), .ref (am 5), .ref (am 6), .ref (am 7), .int rd, .int wr, .int vi])), (am 0, .inl (K.2.1, 2, .inl po)), (am 1, .inl (K.2.1, 2, .inl ca)), (am 2, .inl (K.2.1, 2, .inl go)), (am 3, .inl (K.2.1, 8, .inl le)), (am 4, .inl (K.2.1, 160, .inl pg)), (am 5, .inl (K.2.2.1, 128, .inl mk)), (am 6, .inl (K.2.2.1, 128, .inl we)), (am 7, .inl (K.2.1, 6, .inl co))]) rfl ?_
  cases w with
  | false =>
    refine g_aload_n (pc := 0) hX dX3_askLower_0 rfl 0 rfl ?_
    refine g_iconst (pc := 1) (v := (nI 1)) hX dX3_askLower_1 (by decide) ?_
    refine g_iload_n (pc := 2) hX dX3_askLower_2 rfl 1 rfl ?_
    refine g_ci (pc := 3) hX (wc := [(m, .inr (3, [.ref (am 0), .ref (am 1), .ref (am 2), .ref (am 3), .ref (am 4), .ref (am 5), .ref (am 6), .ref (am 7), .int rd, .int wr, .int vi])), (am 0, .inl (K.2.1, 2, .inl po)), (am 1, .inl (K.2.1, 2, .inl ca)), (am 2, .inl (K.2.1, 2, .inl go)), (am 3, .inl (K.2.1, 8, .inl le)), (am 4, .inl (K.2.1, 160, .inl pg)), (am 5, .inl (K.2.2.1, 128, .inl mk)), (am 6, .inl (K.2.2.1, 128, .inl we)), (am 7, .inl (K.2.1, 6, .inl co))]) (wr := []) (Wd' := fun u3 => [(m, .inr (3, [.ref (am 0), .ref (am 1), .ref (am 2), .ref (am 3), .ref (am 4), .ref (am 5), .ref (am 6), .ref (am 7), .int rd, .int wr, .int u3.2.2.2.2.2])), (am 0, .inl (K.2.1, 2, .inl po)), (am 1, .inl (K.2.1, 2, .inl ca)), (am 2, .inl (K.2.1, 2, .inl u3.1)), (am 3, .inl (K.2.1, 8, .inl u3.2.1)), (am 4, .inl (K.2.1, 160, .inl u3.2.2.1)), (am 5, .inl (K.2.2.1, 128, .inl u3.2.2.2.1)), (am 6, .inl (K.2.2.1, 128, .inl we)), (am 7, .inl (K.2.1, 6, .inl u3.2.2.2.2.1))]) (g_goV (pc := 3) hX (As := [.int (nI 1), .int (nI x)]) (stk := []) (wc := [(m, .inr (3, [.ref (am 0), .ref (am 1), .ref (am 2), .ref (am 3), .ref (am 4), .ref (am 5), .ref (am 6), .ref (am 7), .int rd, .int wr, .int vi])), (am 0, .inl (K.2.1, 2, .inl po)), (am 1, .inl (K.2.1, 2, .inl ca)), (am 2, .inl (K.2.1, 2, .inl go)), (am 3, .inl (K.2.1, 8, .inl le)), (am 4, .inl (K.2.1, 160, .inl pg)), (am 5, .inl (K.2.2.1, 128, .inl mk)), (am 6, .inl (K.2.2.1, 128, .inl we)), (am 7, .inl (K.2.1, 6, .inl co))]) (c_X3_touch l K m am po ca go le pg mk we co rd wr vi (sF U L) hM 1 (by omega) iL x hx) rfl rfl rfl gX3_askLower_X3_touch nX3_touchV rfl 0 rfl ⟨(Nat.le_of_ble_eq_true rfl), (Nat.le_of_ble_eq_true rfl)⟩ [0, 1, 2, 3, 4, 5, 6, 7, 8] rfl rfl rfl (Nat.le_of_ble_eq_true rfl) dX3_askLower_3 ⟨(Nat.le_of_ble_eq_true rfl), (Nat.le_of_ble_eq_true rfl)⟩) [0, 1, 2, 3, 4, 5, 6, 7, 8] [] [0, 1, 2, 3, 4, 5, 6, 7, 8] rfl rfl rfl (by decide) rfl (fun _ => rfl) (fun r u3 h3 => ?_)
    obtain ⟨rfl, hM3, hv3⟩ := h3
    refine g_top (y := (bI (tHolds L x))) rfl ?_
    rw [sF_1, sF_u1] at hM3
    rw [sF_1] at hv3
    obtain ⟨S3, hS3⟩ : ∃ z : TS, z = (tTouch L x).2 := ⟨_, rfl⟩
    rw [← hS3] at hM3
    have iS3 : tInv S3 := by rw [hS3]; exact (tTouch_inv hx iL).1
    have vS3 : ∀ p, (tTouch L x).1 = some p → p < 64 := (tTouch_inv hx iL).2
    refine g_ws (ws' := [(m, .inr (3, [.ref (am 0), .ref (am 1), .ref (am 2), .ref (am 3), .ref (am 4), .ref (am 5), .ref (am 6), .ref (am 7), .int rd, .int wr, .int (pI ((tTouch L x).1))])), (am 0, .inl (K.2.1, 2, .inl po)), (am 1, .inl (K.2.1, 2, .inl ca)), (am 2, .inl (K.2.1, 2, .inl u3.1)), (am 3, .inl (K.2.1, 8, .inl u3.2.1)), (am 4, .inl (K.2.1, 160, .inl u3.2.2.1)), (am 5, .inl (K.2.2.1, 128, .inl u3.2.2.2.1)), (am 6, .inl (K.2.2.1, 128, .inl we)), (am 7, .inl (K.2.1, 6, .inl u3.2.2.2.2.1))]) (by rw [hv3]) ?_
    refine g_istore_n (pc := 6) (lv' := [(3, .int (bI (tHolds L x))), (0, .ref m), (1, .int (nI x)), (2, .int (bI false))]) hX dX3_askLower_6 rfl (by decide) rfl ?_
    refine g_aload_n (pc := 7) hX dX3_askLower_7 rfl 1 rfl ?_
    refine g_iload_n (pc := 8) hX dX3_askLower_8 rfl 0 rfl ?_
    refine g_ifB_ne (pc := 9) (tgt := 25) hX dX3_askLower_9 (by decide) (fun c9 => ?_) (fun c9 => ?_)
    · refine g_aload_n (pc := 25) hX dX3_askLower_25 rfl 1 rfl ?_
      refine g_get (pc := 26) (C := RX3) (T := TX3) (N := 11) (ci := 3) (v := .int rd) hX inX3_askLower_X3 0 rfl rfl 8 (by decide) flX3_askLower_35 rfl rfl dX3_askLower_26 ?_
      refine g_put (pc := 29) (C := RX3) (T := TX3) (N := 11) (ci := 3) (v := .int rd) (ws' := [(m, .inr (3, [.ref (am 0), .ref (am 1), .ref (am 2), .ref (am 3), .ref (am 4), .ref (am 5), .ref (am 6), .ref (am 7), .int rd, .int wr, .int (pI ((tTouch L x).1))])), (am 0, .inl (K.2.1, 2, .inl po)), (am 1, .inl (K.2.1, 2, .inl ca)), (am 2, .inl (K.2.1, 2, .inl u3.1)), (am 3, .inl (K.2.1, 8, .inl u3.2.1)), (am 4, .inl (K.2.1, 160, .inl u3.2.2.1)), (am 5, .inl (K.2.2.1, 128, .inl u3.2.2.2.1)), (am 6, .inl (K.2.2.1, 128, .inl we)), (am 7, .inl (K.2.1, 6, .inl u3.2.2.2.2.1))]) hX inX3_askLower_X3 tyX3 tyX3_ok nmX3 0 rfl rfl 8 (by decide) flX3_askLower_35 rfl rfl rfl rfl (Nat.le_of_ble_eq_true rfl) rfl dX3_askLower_29 ?_
      refine g_aload_n (pc := 32) hX dX3_askLower_32 rfl 1 rfl ?_
      refine g_aload_n (pc := 33) hX dX3_askLower_33 rfl 1 rfl ?_
      refine g_iconst (pc := 34) (v := (nI 1)) hX dX3_askLower_34 (by decide) ?_
      refine g_aload_n (pc := 35) hX dX3_askLower_35 rfl 1 rfl ?_
      refine g_get (pc := 36) (C := RX3) (T := TX3) (N := 11) (ci := 3) (v := .int (pI ((tTouch L x).1))) hX inX3_askLower_X3 0 rfl rfl 10 (by decide) flX3_askLower_65 rfl rfl dX3_askLower_36 ?_
      refine g_ci (pc := 39) hX (wc := [(m, .inr (3, [.ref (am 0), .ref (am 1), .ref (am 2), .ref (am 3), .ref (am 4), .ref (am 5), .ref (am 6), .ref (am 7), .int rd, .int wr, .int (pI ((tTouch L x).1))])), (am 0, .inl (K.2.1, 2, .inl po)), (am 1, .inl (K.2.1, 2, .inl ca)), (am 2, .inl (K.2.1, 2, .inl u3.1)), (am 3, .inl (K.2.1, 8, .inl u3.2.1)), (am 4, .inl (K.2.1, 160, .inl u3.2.2.1)), (am 5, .inl (K.2.2.1, 128, .inl u3.2.2.2.1)), (am 6, .inl (K.2.2.1, 128, .inl we)), (am 7, .inl (K.2.1, 6, .inl u3.2.2.2.2.1))]) (wr := []) (Wd' := fun u39 => [(m, .inr (3, [.ref (am 0), .ref (am 1), .ref (am 2), .ref (am 3), .ref (am 4), .ref (am 5), .ref (am 6), .ref (am 7), .int rd, .int wr, .int (pI ((tTouch L x).1))])), (am 0, .inl (K.2.1, 2, .inl po)), (am 1, .inl (K.2.1, 2, .inl ca)), (am 2, .inl (K.2.1, 2, .inl u3.1)), (am 3, .inl (K.2.1, 8, .inl u3.2.1)), (am 4, .inl (K.2.1, 160, .inl u3.2.2.1)), (am 5, .inl (K.2.2.1, 128, .inl u3.2.2.2.1)), (am 6, .inl (K.2.2.1, 128, .inl u39.1)), (am 7, .inl (K.2.1, 6, .inl u39.2))]) (g_goV (pc := 39) hX (As := [.int (nI 1), .int (pI ((tTouch L x).1))]) (stk := [.ref m]) (wc := [(m, .inr (3, [.ref (am 0), .ref (am 1), .ref (am 2), .ref (am 3), .ref (am 4), .ref (am 5), .ref (am 6), .ref (am 7), .int rd, .int wr, .int (pI ((tTouch L x).1))])), (am 0, .inl (K.2.1, 2, .inl po)), (am 1, .inl (K.2.1, 2, .inl ca)), (am 2, .inl (K.2.1, 2, .inl u3.1)), (am 3, .inl (K.2.1, 8, .inl u3.2.1)), (am 4, .inl (K.2.1, 160, .inl u3.2.2.1)), (am 5, .inl (K.2.2.1, 128, .inl u3.2.2.2.1)), (am 6, .inl (K.2.2.1, 128, .inl we)), (am 7, .inl (K.2.1, 6, .inl u3.2.2.2.2.1))]) (c_X3_dries l K m am po ca u3.1 u3.2.1 u3.2.2.1 u3.2.2.2.1 we u3.2.2.2.2.1 rd wr (pI ((tTouch L x).1)) (sF U S3) hM3 1 (by omega) ((tTouch L x).1) vS3) rfl rfl rfl gX3_askLower_X3_dries nX3_driesV rfl 0 rfl ⟨(Nat.le_of_ble_eq_true rfl), (Nat.le_of_ble_eq_true rfl)⟩ [0, 1, 2, 3, 4, 5, 6, 7, 8] rfl rfl rfl (Nat.le_of_ble_eq_true rfl) dX3_askLower_39 ⟨(Nat.le_of_ble_eq_true rfl), (Nat.le_of_ble_eq_true rfl)⟩) [0, 1, 2, 3, 4, 5, 6, 7, 8] [] [0, 1, 2, 3, 4, 5, 6, 7, 8] rfl rfl rfl (by decide) rfl (fun _ => rfl) (fun r u39 h39 => ?_)
      obtain ⟨rfl, hM39⟩ := h39
      refine g_top (y := (bI ((tVic S3 ((tTouch L x).1)).1))) rfl ?_
      rw [sF_1, sF_u1] at hM39
      obtain ⟨S39, hS39⟩ : ∃ z : TS, z = (tVic S3 ((tTouch L x).1)).2 := ⟨_, rfl⟩
      rw [← hS39] at hM39
      have iS39 : tInv S39 := by rw [hS39]; exact tVic_inv iS3 _
      refine g_ifB_eq (pc := 42) (tgt := 54) hX dX3_askLower_42 (by decide) (fun c42 => ?_) (fun c42 => ?_)
      · refine g_aload_n (pc := 54) hX dX3_askLower_54 rfl 1 rfl ?_
        refine g_get (pc := 55) (C := RX3) (T := TX3) (N := 11) (ci := 3) (v := .int wr) hX inX3_askLower_X3 0 rfl rfl 9 (by decide) flX3_askLower_39 rfl rfl dX3_askLower_55 ?_
        refine g_put (pc := 58) (C := RX3) (T := TX3) (N := 11) (ci := 3) (v := .int wr) (ws' := [(m, .inr (3, [.ref (am 0), .ref (am 1), .ref (am 2), .ref (am 3), .ref (am 4), .ref (am 5), .ref (am 6), .ref (am 7), .int rd, .int wr, .int (pI ((tTouch L x).1))])), (am 0, .inl (K.2.1, 2, .inl po)), (am 1, .inl (K.2.1, 2, .inl ca)), (am 2, .inl (K.2.1, 2, .inl u3.1)), (am 3, .inl (K.2.1, 8, .inl u3.2.1)), (am 4, .inl (K.2.1, 160, .inl u3.2.2.1)), (am 5, .inl (K.2.2.1, 128, .inl u3.2.2.2.1)), (am 6, .inl (K.2.2.1, 128, .inl u39.1)), (am 7, .inl (K.2.1, 6, .inl u39.2))]) hX inX3_askLower_X3 tyX3 tyX3_ok nmX3 0 rfl rfl 9 (by decide) flX3_askLower_39 rfl rfl rfl rfl (Nat.le_of_ble_eq_true rfl) rfl dX3_askLower_58 ?_
        refine g_aload_n (pc := 61) hX dX3_askLower_61 rfl 1 rfl ?_
        refine g_get (pc := 62) (C := RX3) (T := TX3) (N := 11) (ci := 3) (v := .ref (am 6)) hX inX3_askLower_X3 0 rfl rfl 6 (by decide) flX3_askLower_29 rfl rfl dX3_askLower_62 ?_
        refine g_bipush (pc := 65) (v := (nI 64)) hX dX3_askLower_65 (by decide) ?_
        refine g_iload_n (pc := 67) hX dX3_askLower_67 rfl 2 rfl ?_
        refine g_iaddN (pc := 68) (r := 64 + x) hX dX3_askLower_68 (by first | rfl | omega) ?_
        refine g_aload_n (pc := 69) hX dX3_askLower_69 rfl 1 rfl ?_
        refine g_get (pc := 70) (C := RX3) (T := TX3) (N := 11) (ci := 3) (v := .ref (am 6)) hX inX3_askLower_X3 0 rfl rfl 6 (by decide) flX3_askLower_29 rfl rfl dX3_askLower_70 ?_
        refine g_bipush (pc := 73) (v := (nI 64)) hX dX3_askLower_73 (by decide) ?_
        refine g_iload_n (pc := 75) hX dX3_askLower_75 rfl 2 rfl ?_
        refine g_iaddN (pc := 76) (r := 64 + x) hX dX3_askLower_76 (by first | rfl | omega) ?_
        refine g_zald (pc := 77) (v := (bI (S39.2.2.1.2 x))) hX 7 rfl (by omega) (by omega) (hM39.2.2.2.2.2.1 1 (by omega) x hx) dX3_askLower_77 ?_
        refine g_ifB_ne (pc := 78) (tgt := 85) hX dX3_askLower_78 (by decide) (fun c78 => ?_) (fun c78 => ?_)
        · refine g_iconst (pc := 85) (v := (nI 1)) hX dX3_askLower_85 (by decide) ?_
          refine g_goto (pc := 86) (tgt := 90) hX dX3_askLower_86 (by decide) ?_
          refine g_zast (pc := 90) (ws' := [(m, .inr (3, [.ref (am 0), .ref (am 1), .ref (am 2), .ref (am 3), .ref (am 4), .ref (am 5), .ref (am 6), .ref (am 7), .int rd, .int wr, .int (pI ((tTouch L x).1))])), (am 0, .inl (K.2.1, 2, .inl po)), (am 1, .inl (K.2.1, 2, .inl ca)), (am 2, .inl (K.2.1, 2, .inl u3.1)), (am 3, .inl (K.2.1, 8, .inl u3.2.1)), (am 4, .inl (K.2.1, 160, .inl u3.2.2.1)), (am 5, .inl (K.2.2.1, 128, .inl u3.2.2.2.1)), (am 6, .inl (K.2.2.1, 128, .inl (upd u39.1 (64 + x) (nI 1)))), (am 7, .inl (K.2.1, 6, .inl u39.2))]) hX 7 rfl (by omega) (by omega) (by decide) rfl dX3_askLower_90 ?_
          obtain ⟨S91, hS91⟩ : ∃ z : TS, z = tDirty S39 x true := ⟨_, rfl⟩
          have hM91 : mR (sF U S91) po ca u3.1 u3.2.1 u3.2.2.1 u3.2.2.2.1 (upd u39.1 (64 + x) (nI 1)) u39.2 := by
            have k := hM39.2.2.2.2.2.1.set (t := 1) (p := x) (by omega) hx true
            rw [show 64 * 1 + x = 64 + x by omega] at k
            have k2 := mR_set (t := 1) (S := tDirty S39 x true) hM39 (by omega) rfl rfl (hM39.2.2.1 1 (by omega)) (fun _ _ => rfl) (hM39.row (S := S39) rfl) (hM39.mk (S := S39) rfl) k (hM39.2.2.2.2.2.2 1 (by omega)) (fun _ _ => rfl)
            rw [sF_u1] at k2
            rw [hS91]
            exact k2
          have iS91 : tInv S91 := by rw [hS91]; exact iS39
          have hf91 : S91 = S39 := by rw [hS91]; exact tDirty_same c78
          refine g_iload_n (pc := 91) hX dX3_askLower_91 rfl 0 rfl ?_
          have e0 : cAsk (U, L, rd, wr) x false = (tHolds L x, (U, S91, rd, wr)) := by
            rw [hf91]
            subst hS3 hS39
            simp [cAsk, c9, c42]
          rw [e0] at hret
          exact hret (v := tHolds L x) (u := (u3.1, u3.2.1, u3.2.2.1, u3.2.2.2.1, upd u39.1 (64 + x) (nI 1), u39.2, (pI ((tTouch L x).1)))) dX3_askLower_92 (⟨rfl, hM91, iS91⟩) rfl
        · refine g_iload_n (pc := 81) hX dX3_askLower_81 rfl 3 rfl ?_
          refine g_ifB_eq (pc := 82) (tgt := 89) hX dX3_askLower_82 (by decide) (fun c82 => ?_) (fun c82 => absurd c82 (by decide))
          refine g_iconst (pc := 89) (v := (nI 0)) hX dX3_askLower_89 (by decide) ?_
          refine g_zast (pc := 90) (ws' := [(m, .inr (3, [.ref (am 0), .ref (am 1), .ref (am 2), .ref (am 3), .ref (am 4), .ref (am 5), .ref (am 6), .ref (am 7), .int rd, .int wr, .int (pI ((tTouch L x).1))])), (am 0, .inl (K.2.1, 2, .inl po)), (am 1, .inl (K.2.1, 2, .inl ca)), (am 2, .inl (K.2.1, 2, .inl u3.1)), (am 3, .inl (K.2.1, 8, .inl u3.2.1)), (am 4, .inl (K.2.1, 160, .inl u3.2.2.1)), (am 5, .inl (K.2.2.1, 128, .inl u3.2.2.2.1)), (am 6, .inl (K.2.2.1, 128, .inl (upd u39.1 (64 + x) (nI 0)))), (am 7, .inl (K.2.1, 6, .inl u39.2))]) hX 7 rfl (by omega) (by omega) (by decide) rfl dX3_askLower_90 ?_
          obtain ⟨S91, hS91⟩ : ∃ z : TS, z = tDirty S39 x false := ⟨_, rfl⟩
          have hM91 : mR (sF U S91) po ca u3.1 u3.2.1 u3.2.2.1 u3.2.2.2.1 (upd u39.1 (64 + x) (nI 0)) u39.2 := by
            have k := hM39.2.2.2.2.2.1.set (t := 1) (p := x) (by omega) hx false
            rw [show 64 * 1 + x = 64 + x by omega] at k
            have k2 := mR_set (t := 1) (S := tDirty S39 x false) hM39 (by omega) rfl rfl (hM39.2.2.1 1 (by omega)) (fun _ _ => rfl) (hM39.row (S := S39) rfl) (hM39.mk (S := S39) rfl) k (hM39.2.2.2.2.2.2 1 (by omega)) (fun _ _ => rfl)
            rw [sF_u1] at k2
            rw [hS91]
            exact k2
          have iS91 : tInv S91 := by rw [hS91]; exact iS39
          have hf91 : S91 = S39 := by rw [hS91]; exact tDirty_same c78
          refine g_iload_n (pc := 91) hX dX3_askLower_91 rfl 0 rfl ?_
          have e0 : cAsk (U, L, rd, wr) x false = (tHolds L x, (U, S91, rd, wr)) := by
            rw [hf91]
            subst hS3 hS39
            simp [cAsk, c9, c42]
          rw [e0] at hret
          exact hret (v := tHolds L x) (u := (u3.1, u3.2.1, u3.2.2.1, u3.2.2.2.1, upd u39.1 (64 + x) (nI 0), u39.2, (pI ((tTouch L x).1)))) dX3_askLower_92 (⟨rfl, hM91, iS91⟩) rfl
      · refine g_aload_n (pc := 45) hX dX3_askLower_45 rfl 1 rfl ?_
        refine g_get (pc := 46) (C := RX3) (T := TX3) (N := 11) (ci := 3) (v := .int wr) hX inX3_askLower_X3 0 rfl rfl 9 (by decide) flX3_askLower_39 rfl rfl dX3_askLower_46 ?_
        refine g_iconst (pc := 49) (v := (nI 1)) hX dX3_askLower_49 (by decide) ?_
        refine g_iadd (pc := 50) (z := wr + 1) hX dX3_askLower_50 rfl ?_
        refine g_goto (pc := 51) (tgt := 58) hX dX3_askLower_51 (by decide) ?_
        refine g_put (pc := 58) (C := RX3) (T := TX3) (N := 11) (ci := 3) (v := .int (wr + 1)) (ws' := [(m, .inr (3, [.ref (am 0), .ref (am 1), .ref (am 2), .ref (am 3), .ref (am 4), .ref (am 5), .ref (am 6), .ref (am 7), .int rd, .int (wr + 1), .int (pI ((tTouch L x).1))])), (am 0, .inl (K.2.1, 2, .inl po)), (am 1, .inl (K.2.1, 2, .inl ca)), (am 2, .inl (K.2.1, 2, .inl u3.1)), (am 3, .inl (K.2.1, 8, .inl u3.2.1)), (am 4, .inl (K.2.1, 160, .inl u3.2.2.1)), (am 5, .inl (K.2.2.1, 128, .inl u3.2.2.2.1)), (am 6, .inl (K.2.2.1, 128, .inl u39.1)), (am 7, .inl (K.2.1, 6, .inl u39.2))]) hX inX3_askLower_X3 tyX3 tyX3_ok nmX3 0 rfl rfl 9 (by decide) flX3_askLower_39 rfl rfl rfl rfl (Nat.le_of_ble_eq_true rfl) rfl dX3_askLower_58 ?_
        refine g_aload_n (pc := 61) hX dX3_askLower_61 rfl 1 rfl ?_
        refine g_get (pc := 62) (C := RX3) (T := TX3) (N := 11) (ci := 3) (v := .ref (am 6)) hX inX3_askLower_X3 0 rfl rfl 6 (by decide) flX3_askLower_29 rfl rfl dX3_askLower_62 ?_
        refine g_bipush (pc := 65) (v := (nI 64)) hX dX3_askLower_65 (by decide) ?_
        refine g_iload_n (pc := 67) hX dX3_askLower_67 rfl 2 rfl ?_
        refine g_iaddN (pc := 68) (r := 64 + x) hX dX3_askLower_68 (by first | rfl | omega) ?_
        refine g_aload_n (pc := 69) hX dX3_askLower_69 rfl 1 rfl ?_
        refine g_get (pc := 70) (C := RX3) (T := TX3) (N := 11) (ci := 3) (v := .ref (am 6)) hX inX3_askLower_X3 0 rfl rfl 6 (by decide) flX3_askLower_29 rfl rfl dX3_askLower_70 ?_
        refine g_bipush (pc := 73) (v := (nI 64)) hX dX3_askLower_73 (by decide) ?_
        refine g_iload_n (pc := 75) hX dX3_askLower_75 rfl 2 rfl ?_
        refine g_iaddN (pc := 76) (r := 64 + x) hX dX3_askLower_76 (by first | rfl | omega) ?_
        refine g_zald (pc := 77) (v := (bI (S39.2.2.1.2 x))) hX 7 rfl (by omega) (by omega) (hM39.2.2.2.2.2.1 1 (by omega) x hx) dX3_askLower_77 ?_
        refine g_ifB_ne (pc := 78) (tgt := 85) hX dX3_askLower_78 (by decide) (fun c78 => ?_) (fun c78 => ?_)
        · refine g_iconst (pc := 85) (v := (nI 1)) hX dX3_askLower_85 (by decide) ?_
          refine g_goto (pc := 86) (tgt := 90) hX dX3_askLower_86 (by decide) ?_
          refine g_zast (pc := 90) (ws' := [(m, .inr (3, [.ref (am 0), .ref (am 1), .ref (am 2), .ref (am 3), .ref (am 4), .ref (am 5), .ref (am 6), .ref (am 7), .int rd, .int (wr + 1), .int (pI ((tTouch L x).1))])), (am 0, .inl (K.2.1, 2, .inl po)), (am 1, .inl (K.2.1, 2, .inl ca)), (am 2, .inl (K.2.1, 2, .inl u3.1)), (am 3, .inl (K.2.1, 8, .inl u3.2.1)), (am 4, .inl (K.2.1, 160, .inl u3.2.2.1)), (am 5, .inl (K.2.2.1, 128, .inl u3.2.2.2.1)), (am 6, .inl (K.2.2.1, 128, .inl (upd u39.1 (64 + x) (nI 1)))), (am 7, .inl (K.2.1, 6, .inl u39.2))]) hX 7 rfl (by omega) (by omega) (by decide) rfl dX3_askLower_90 ?_
          obtain ⟨S91, hS91⟩ : ∃ z : TS, z = tDirty S39 x true := ⟨_, rfl⟩
          have hM91 : mR (sF U S91) po ca u3.1 u3.2.1 u3.2.2.1 u3.2.2.2.1 (upd u39.1 (64 + x) (nI 1)) u39.2 := by
            have k := hM39.2.2.2.2.2.1.set (t := 1) (p := x) (by omega) hx true
            rw [show 64 * 1 + x = 64 + x by omega] at k
            have k2 := mR_set (t := 1) (S := tDirty S39 x true) hM39 (by omega) rfl rfl (hM39.2.2.1 1 (by omega)) (fun _ _ => rfl) (hM39.row (S := S39) rfl) (hM39.mk (S := S39) rfl) k (hM39.2.2.2.2.2.2 1 (by omega)) (fun _ _ => rfl)
            rw [sF_u1] at k2
            rw [hS91]
            exact k2
          have iS91 : tInv S91 := by rw [hS91]; exact iS39
          have hf91 : S91 = S39 := by rw [hS91]; exact tDirty_same c78
          refine g_iload_n (pc := 91) hX dX3_askLower_91 rfl 0 rfl ?_
          have e0 : cAsk (U, L, rd, wr) x false = (tHolds L x, (U, S91, rd, wr + 1)) := by
            rw [hf91]
            subst hS3 hS39
            simp [cAsk, c9, c42]
          rw [e0] at hret
          exact hret (v := tHolds L x) (u := (u3.1, u3.2.1, u3.2.2.1, u3.2.2.2.1, upd u39.1 (64 + x) (nI 1), u39.2, (pI ((tTouch L x).1)))) dX3_askLower_92 (⟨rfl, hM91, iS91⟩) rfl
        · refine g_iload_n (pc := 81) hX dX3_askLower_81 rfl 3 rfl ?_
          refine g_ifB_eq (pc := 82) (tgt := 89) hX dX3_askLower_82 (by decide) (fun c82 => ?_) (fun c82 => absurd c82 (by decide))
          refine g_iconst (pc := 89) (v := (nI 0)) hX dX3_askLower_89 (by decide) ?_
          refine g_zast (pc := 90) (ws' := [(m, .inr (3, [.ref (am 0), .ref (am 1), .ref (am 2), .ref (am 3), .ref (am 4), .ref (am 5), .ref (am 6), .ref (am 7), .int rd, .int (wr + 1), .int (pI ((tTouch L x).1))])), (am 0, .inl (K.2.1, 2, .inl po)), (am 1, .inl (K.2.1, 2, .inl ca)), (am 2, .inl (K.2.1, 2, .inl u3.1)), (am 3, .inl (K.2.1, 8, .inl u3.2.1)), (am 4, .inl (K.2.1, 160, .inl u3.2.2.1)), (am 5, .inl (K.2.2.1, 128, .inl u3.2.2.2.1)), (am 6, .inl (K.2.2.1, 128, .inl (upd u39.1 (64 + x) (nI 0)))), (am 7, .inl (K.2.1, 6, .inl u39.2))]) hX 7 rfl (by omega) (by omega) (by decide) rfl dX3_askLower_90 ?_
          obtain ⟨S91, hS91⟩ : ∃ z : TS, z = tDirty S39 x false := ⟨_, rfl⟩
          have hM91 : mR (sF U S91) po ca u3.1 u3.2.1 u3.2.2.1 u3.2.2.2.1 (upd u39.1 (64 + x) (nI 0)) u39.2 := by
            have k := hM39.2.2.2.2.2.1.set (t := 1) (p := x) (by omega) hx false
            rw [show 64 * 1 + x = 64 + x by omega] at k
            have k2 := mR_set (t := 1) (S := tDirty S39 x false) hM39 (by omega) rfl rfl (hM39.2.2.1 1 (by omega)) (fun _ _ => rfl) (hM39.row (S := S39) rfl) (hM39.mk (S := S39) rfl) k (hM39.2.2.2.2.2.2 1 (by omega)) (fun _ _ => rfl)
            rw [sF_u1] at k2
            rw [hS91]
            exact k2
          have iS91 : tInv S91 := by rw [hS91]; exact iS39
          have hf91 : S91 = S39 := by rw [hS91]; exact tDirty_same c78
          refine g_iload_n (pc := 91) hX dX3_askLower_91 rfl 0 rfl ?_
          have e0 : cAsk (U, L, rd, wr) x false = (tHolds L x, (U, S91, rd, wr + 1)) := by
            rw [hf91]
            subst hS3 hS39
            simp [cAsk, c9, c42]
          rw [e0] at hret
          exact hret (v := tHolds L x) (u := (u3.1, u3.2.1, u3.2.2.1, u3.2.2.2.1, upd u39.1 (64 + x) (nI 0), u39.2, (pI ((tTouch L x).1)))) dX3_askLower_92 (⟨rfl, hM91, iS91⟩) rfl
    · refine g_iload_n (pc := 12) hX dX3_askLower_12 rfl 3 rfl ?_
      refine g_ifB_ne (pc := 13) (tgt := 25) hX dX3_askLower_13 (by decide) (fun c13 => absurd c13 (by decide)) (fun c13 => ?_)
      refine g_aload_n (pc := 16) hX dX3_askLower_16 rfl 1 rfl ?_
      refine g_get (pc := 17) (C := RX3) (T := TX3) (N := 11) (ci := 3) (v := .int rd) hX inX3_askLower_X3 0 rfl rfl 8 (by decide) flX3_askLower_35 rfl rfl dX3_askLower_17 ?_
      refine g_iconst (pc := 20) (v := (nI 1)) hX dX3_askLower_20 (by decide) ?_
      refine g_iadd (pc := 21) (z := rd + 1) hX dX3_askLower_21 rfl ?_
      refine g_goto (pc := 22) (tgt := 29) hX dX3_askLower_22 (by decide) ?_
      refine g_put (pc := 29) (C := RX3) (T := TX3) (N := 11) (ci := 3) (v := .int (rd + 1)) (ws' := [(m, .inr (3, [.ref (am 0), .ref (am 1), .ref (am 2), .ref (am 3), .ref (am 4), .ref (am 5), .ref (am 6), .ref (am 7), .int (rd + 1), .int wr, .int (pI ((tTouch L x).1))])), (am 0, .inl (K.2.1, 2, .inl po)), (am 1, .inl (K.2.1, 2, .inl ca)), (am 2, .inl (K.2.1, 2, .inl u3.1)), (am 3, .inl (K.2.1, 8, .inl u3.2.1)), (am 4, .inl (K.2.1, 160, .inl u3.2.2.1)), (am 5, .inl (K.2.2.1, 128, .inl u3.2.2.2.1)), (am 6, .inl (K.2.2.1, 128, .inl we)), (am 7, .inl (K.2.1, 6, .inl u3.2.2.2.2.1))]) hX inX3_askLower_X3 tyX3 tyX3_ok nmX3 0 rfl rfl 8 (by decide) flX3_askLower_35 rfl rfl rfl rfl (Nat.le_of_ble_eq_true rfl) rfl dX3_askLower_29 ?_
      refine g_aload_n (pc := 32) hX dX3_askLower_32 rfl 1 rfl ?_
      refine g_aload_n (pc := 33) hX dX3_askLower_33 rfl 1 rfl ?_
      refine g_iconst (pc := 34) (v := (nI 1)) hX dX3_askLower_34 (by decide) ?_
      refine g_aload_n (pc := 35) hX dX3_askLower_35 rfl 1 rfl ?_
      refine g_get (pc := 36) (C := RX3) (T := TX3) (N := 11) (ci := 3) (v := .int (pI ((tTouch L x).1))) hX inX3_askLower_X3 0 rfl rfl 10 (by decide) flX3_askLower_65 rfl rfl dX3_askLower_36 ?_
      refine g_ci (pc := 39) hX (wc := [(m, .inr (3, [.ref (am 0), .ref (am 1), .ref (am 2), .ref (am 3), .ref (am 4), .ref (am 5), .ref (am 6), .ref (am 7), .int (rd + 1), .int wr, .int (pI ((tTouch L x).1))])), (am 0, .inl (K.2.1, 2, .inl po)), (am 1, .inl (K.2.1, 2, .inl ca)), (am 2, .inl (K.2.1, 2, .inl u3.1)), (am 3, .inl (K.2.1, 8, .inl u3.2.1)), (am 4, .inl (K.2.1, 160, .inl u3.2.2.1)), (am 5, .inl (K.2.2.1, 128, .inl u3.2.2.2.1)), (am 6, .inl (K.2.2.1, 128, .inl we)), (am 7, .inl (K.2.1, 6, .inl u3.2.2.2.2.1))]) (wr := []) (Wd' := fun u39 => [(m, .inr (3, [.ref (am 0), .ref (am 1), .ref (am 2), .ref (am 3), .ref (am 4), .ref (am 5), .ref (am 6), .ref (am 7), .int (rd + 1), .int wr, .int (pI ((tTouch L x).1))])), (am 0, .inl (K.2.1, 2, .inl po)), (am 1, .inl (K.2.1, 2, .inl ca)), (am 2, .inl (K.2.1, 2, .inl u3.1)), (am 3, .inl (K.2.1, 8, .inl u3.2.1)), (am 4, .inl (K.2.1, 160, .inl u3.2.2.1)), (am 5, .inl (K.2.2.1, 128, .inl u3.2.2.2.1)), (am 6, .inl (K.2.2.1, 128, .inl u39.1)), (am 7, .inl (K.2.1, 6, .inl u39.2))]) (g_goV (pc := 39) hX (As := [.int (nI 1), .int (pI ((tTouch L x).1))]) (stk := [.ref m]) (wc := [(m, .inr (3, [.ref (am 0), .ref (am 1), .ref (am 2), .ref (am 3), .ref (am 4), .ref (am 5), .ref (am 6), .ref (am 7), .int (rd + 1), .int wr, .int (pI ((tTouch L x).1))])), (am 0, .inl (K.2.1, 2, .inl po)), (am 1, .inl (K.2.1, 2, .inl ca)), (am 2, .inl (K.2.1, 2, .inl u3.1)), (am 3, .inl (K.2.1, 8, .inl u3.2.1)), (am 4, .inl (K.2.1, 160, .inl u3.2.2.1)), (am 5, .inl (K.2.2.1, 128, .inl u3.2.2.2.1)), (am 6, .inl (K.2.2.1, 128, .inl we)), (am 7, .inl (K.2.1, 6, .inl u3.2.2.2.2.1))]) (c_X3_dries l K m am po ca u3.1 u3.2.1 u3.2.2.1 u3.2.2.2.1 we u3.2.2.2.2.1 (rd + 1) wr (pI ((tTouch L x).1)) (sF U S3) hM3 1 (by omega) ((tTouch L x).1) vS3) rfl rfl rfl gX3_askLower_X3_dries nX3_driesV rfl 0 rfl ⟨(Nat.le_of_ble_eq_true rfl), (Nat.le_of_ble_eq_true rfl)⟩ [0, 1, 2, 3, 4, 5, 6, 7, 8] rfl rfl rfl (Nat.le_of_ble_eq_true rfl) dX3_askLower_39 ⟨(Nat.le_of_ble_eq_true rfl), (Nat.le_of_ble_eq_true rfl)⟩) [0, 1, 2, 3, 4, 5, 6, 7, 8] [] [0, 1, 2, 3, 4, 5, 6, 7, 8] rfl rfl rfl (by decide) rfl (fun _ => rfl) (fun r u39 h39 => ?_)
      obtain ⟨rfl, hM39⟩ := h39
      refine g_top (y := (bI ((tVic S3 ((tTouch L x).1)).1))) rfl ?_
      rw [sF_1, sF_u1] at hM39
      obtain ⟨S39, hS39⟩ : ∃ z : TS, z = (tVic S3 ((tTouch L x).1)).2 := ⟨_, rfl⟩
      rw [← hS39] at hM39
      have iS39 : tInv S39 := by rw [hS39]; exact tVic_inv iS3 _
      refine g_ifB_eq (pc := 42) (tgt := 54) hX dX3_askLower_42 (by decide) (fun c42 => ?_) (fun c42 => ?_)
      · refine g_aload_n (pc := 54) hX dX3_askLower_54 rfl 1 rfl ?_
        refine g_get (pc := 55) (C := RX3) (T := TX3) (N := 11) (ci := 3) (v := .int wr) hX inX3_askLower_X3 0 rfl rfl 9 (by decide) flX3_askLower_39 rfl rfl dX3_askLower_55 ?_
        refine g_put (pc := 58) (C := RX3) (T := TX3) (N := 11) (ci := 3) (v := .int wr) (ws' := [(m, .inr (3, [.ref (am 0), .ref (am 1), .ref (am 2), .ref (am 3), .ref (am 4), .ref (am 5), .ref (am 6), .ref (am 7), .int (rd + 1), .int wr, .int (pI ((tTouch L x).1))])), (am 0, .inl (K.2.1, 2, .inl po)), (am 1, .inl (K.2.1, 2, .inl ca)), (am 2, .inl (K.2.1, 2, .inl u3.1)), (am 3, .inl (K.2.1, 8, .inl u3.2.1)), (am 4, .inl (K.2.1, 160, .inl u3.2.2.1)), (am 5, .inl (K.2.2.1, 128, .inl u3.2.2.2.1)), (am 6, .inl (K.2.2.1, 128, .inl u39.1)), (am 7, .inl (K.2.1, 6, .inl u39.2))]) hX inX3_askLower_X3 tyX3 tyX3_ok nmX3 0 rfl rfl 9 (by decide) flX3_askLower_39 rfl rfl rfl rfl (Nat.le_of_ble_eq_true rfl) rfl dX3_askLower_58 ?_
        refine g_aload_n (pc := 61) hX dX3_askLower_61 rfl 1 rfl ?_
        refine g_get (pc := 62) (C := RX3) (T := TX3) (N := 11) (ci := 3) (v := .ref (am 6)) hX inX3_askLower_X3 0 rfl rfl 6 (by decide) flX3_askLower_29 rfl rfl dX3_askLower_62 ?_
        refine g_bipush (pc := 65) (v := (nI 64)) hX dX3_askLower_65 (by decide) ?_
        refine g_iload_n (pc := 67) hX dX3_askLower_67 rfl 2 rfl ?_
        refine g_iaddN (pc := 68) (r := 64 + x) hX dX3_askLower_68 (by first | rfl | omega) ?_
        refine g_aload_n (pc := 69) hX dX3_askLower_69 rfl 1 rfl ?_
        refine g_get (pc := 70) (C := RX3) (T := TX3) (N := 11) (ci := 3) (v := .ref (am 6)) hX inX3_askLower_X3 0 rfl rfl 6 (by decide) flX3_askLower_29 rfl rfl dX3_askLower_70 ?_
        refine g_bipush (pc := 73) (v := (nI 64)) hX dX3_askLower_73 (by decide) ?_
        refine g_iload_n (pc := 75) hX dX3_askLower_75 rfl 2 rfl ?_
        refine g_iaddN (pc := 76) (r := 64 + x) hX dX3_askLower_76 (by first | rfl | omega) ?_
        refine g_zald (pc := 77) (v := (bI (S39.2.2.1.2 x))) hX 7 rfl (by omega) (by omega) (hM39.2.2.2.2.2.1 1 (by omega) x hx) dX3_askLower_77 ?_
        refine g_ifB_ne (pc := 78) (tgt := 85) hX dX3_askLower_78 (by decide) (fun c78 => ?_) (fun c78 => ?_)
        · refine g_iconst (pc := 85) (v := (nI 1)) hX dX3_askLower_85 (by decide) ?_
          refine g_goto (pc := 86) (tgt := 90) hX dX3_askLower_86 (by decide) ?_
          refine g_zast (pc := 90) (ws' := [(m, .inr (3, [.ref (am 0), .ref (am 1), .ref (am 2), .ref (am 3), .ref (am 4), .ref (am 5), .ref (am 6), .ref (am 7), .int (rd + 1), .int wr, .int (pI ((tTouch L x).1))])), (am 0, .inl (K.2.1, 2, .inl po)), (am 1, .inl (K.2.1, 2, .inl ca)), (am 2, .inl (K.2.1, 2, .inl u3.1)), (am 3, .inl (K.2.1, 8, .inl u3.2.1)), (am 4, .inl (K.2.1, 160, .inl u3.2.2.1)), (am 5, .inl (K.2.2.1, 128, .inl u3.2.2.2.1)), (am 6, .inl (K.2.2.1, 128, .inl (upd u39.1 (64 + x) (nI 1)))), (am 7, .inl (K.2.1, 6, .inl u39.2))]) hX 7 rfl (by omega) (by omega) (by decide) rfl dX3_askLower_90 ?_
          obtain ⟨S91, hS91⟩ : ∃ z : TS, z = tDirty S39 x true := ⟨_, rfl⟩
          have hM91 : mR (sF U S91) po ca u3.1 u3.2.1 u3.2.2.1 u3.2.2.2.1 (upd u39.1 (64 + x) (nI 1)) u39.2 := by
            have k := hM39.2.2.2.2.2.1.set (t := 1) (p := x) (by omega) hx true
            rw [show 64 * 1 + x = 64 + x by omega] at k
            have k2 := mR_set (t := 1) (S := tDirty S39 x true) hM39 (by omega) rfl rfl (hM39.2.2.1 1 (by omega)) (fun _ _ => rfl) (hM39.row (S := S39) rfl) (hM39.mk (S := S39) rfl) k (hM39.2.2.2.2.2.2 1 (by omega)) (fun _ _ => rfl)
            rw [sF_u1] at k2
            rw [hS91]
            exact k2
          have iS91 : tInv S91 := by rw [hS91]; exact iS39
          have hf91 : S91 = S39 := by rw [hS91]; exact tDirty_same c78
          refine g_iload_n (pc := 91) hX dX3_askLower_91 rfl 0 rfl ?_
          have e0 : cAsk (U, L, rd, wr) x false = (tHolds L x, (U, S91, rd + 1, wr)) := by
            rw [hf91]
            subst hS3 hS39
            simp [cAsk, c9, c42]
          rw [e0] at hret
          exact hret (v := tHolds L x) (u := (u3.1, u3.2.1, u3.2.2.1, u3.2.2.2.1, upd u39.1 (64 + x) (nI 1), u39.2, (pI ((tTouch L x).1)))) dX3_askLower_92 (⟨rfl, hM91, iS91⟩) rfl
        · refine g_iload_n (pc := 81) hX dX3_askLower_81 rfl 3 rfl ?_
          refine g_ifB_eq (pc := 82) (tgt := 89) hX dX3_askLower_82 (by decide) (fun c82 => ?_) (fun c82 => absurd c82 (by decide))
          refine g_iconst (pc := 89) (v := (nI 0)) hX dX3_askLower_89 (by decide) ?_
          refine g_zast (pc := 90) (ws' := [(m, .inr (3, [.ref (am 0), .ref (am 1), .ref (am 2), .ref (am 3), .ref (am 4), .ref (am 5), .ref (am 6), .ref (am 7), .int (rd + 1), .int wr, .int (pI ((tTouch L x).1))])), (am 0, .inl (K.2.1, 2, .inl po)), (am 1, .inl (K.2.1, 2, .inl ca)), (am 2, .inl (K.2.1, 2, .inl u3.1)), (am 3, .inl (K.2.1, 8, .inl u3.2.1)), (am 4, .inl (K.2.1, 160, .inl u3.2.2.1)), (am 5, .inl (K.2.2.1, 128, .inl u3.2.2.2.1)), (am 6, .inl (K.2.2.1, 128, .inl (upd u39.1 (64 + x) (nI 0)))), (am 7, .inl (K.2.1, 6, .inl u39.2))]) hX 7 rfl (by omega) (by omega) (by decide) rfl dX3_askLower_90 ?_
          obtain ⟨S91, hS91⟩ : ∃ z : TS, z = tDirty S39 x false := ⟨_, rfl⟩
          have hM91 : mR (sF U S91) po ca u3.1 u3.2.1 u3.2.2.1 u3.2.2.2.1 (upd u39.1 (64 + x) (nI 0)) u39.2 := by
            have k := hM39.2.2.2.2.2.1.set (t := 1) (p := x) (by omega) hx false
            rw [show 64 * 1 + x = 64 + x by omega] at k
            have k2 := mR_set (t := 1) (S := tDirty S39 x false) hM39 (by omega) rfl rfl (hM39.2.2.1 1 (by omega)) (fun _ _ => rfl) (hM39.row (S := S39) rfl) (hM39.mk (S := S39) rfl) k (hM39.2.2.2.2.2.2 1 (by omega)) (fun _ _ => rfl)
            rw [sF_u1] at k2
            rw [hS91]
            exact k2
          have iS91 : tInv S91 := by rw [hS91]; exact iS39
          have hf91 : S91 = S39 := by rw [hS91]; exact tDirty_same c78
          refine g_iload_n (pc := 91) hX dX3_askLower_91 rfl 0 rfl ?_
          have e0 : cAsk (U, L, rd, wr) x false = (tHolds L x, (U, S91, rd + 1, wr)) := by
            rw [hf91]
            subst hS3 hS39
            simp [cAsk, c9, c42]
          rw [e0] at hret
          exact hret (v := tHolds L x) (u := (u3.1, u3.2.1, u3.2.2.1, u3.2.2.2.1, upd u39.1 (64 + x) (nI 0), u39.2, (pI ((tTouch L x).1)))) dX3_askLower_92 (⟨rfl, hM91, iS91⟩) rfl
      · refine g_aload_n (pc := 45) hX dX3_askLower_45 rfl 1 rfl ?_
        refine g_get (pc := 46) (C := RX3) (T := TX3) (N := 11) (ci := 3) (v := .int wr) hX inX3_askLower_X3 0 rfl rfl 9 (by decide) flX3_askLower_39 rfl rfl dX3_askLower_46 ?_
        refine g_iconst (pc := 49) (v := (nI 1)) hX dX3_askLower_49 (by decide) ?_
        refine g_iadd (pc := 50) (z := wr + 1) hX dX3_askLower_50 rfl ?_
        refine g_goto (pc := 51) (tgt := 58) hX dX3_askLower_51 (by decide) ?_
        refine g_put (pc := 58) (C := RX3) (T := TX3) (N := 11) (ci := 3) (v := .int (wr + 1)) (ws' := [(m, .inr (3, [.ref (am 0), .ref (am 1), .ref (am 2), .ref (am 3), .ref (am 4), .ref (am 5), .ref (am 6), .ref (am 7), .int (rd + 1), .int (wr + 1), .int (pI ((tTouch L x).1))])), (am 0, .inl (K.2.1, 2, .inl po)), (am 1, .inl (K.2.1, 2, .inl ca)), (am 2, .inl (K.2.1, 2, .inl u3.1)), (am 3, .inl (K.2.1, 8, .inl u3.2.1)), (am 4, .inl (K.2.1, 160, .inl u3.2.2.1)), (am 5, .inl (K.2.2.1, 128, .inl u3.2.2.2.1)), (am 6, .inl (K.2.2.1, 128, .inl u39.1)), (am 7, .inl (K.2.1, 6, .inl u39.2))]) hX inX3_askLower_X3 tyX3 tyX3_ok nmX3 0 rfl rfl 9 (by decide) flX3_askLower_39 rfl rfl rfl rfl (Nat.le_of_ble_eq_true rfl) rfl dX3_askLower_58 ?_
        refine g_aload_n (pc := 61) hX dX3_askLower_61 rfl 1 rfl ?_
        refine g_get (pc := 62) (C := RX3) (T := TX3) (N := 11) (ci := 3) (v := .ref (am 6)) hX inX3_askLower_X3 0 rfl rfl 6 (by decide) flX3_askLower_29 rfl rfl dX3_askLower_62 ?_
        refine g_bipush (pc := 65) (v := (nI 64)) hX dX3_askLower_65 (by decide) ?_
        refine g_iload_n (pc := 67) hX dX3_askLower_67 rfl 2 rfl ?_
        refine g_iaddN (pc := 68) (r := 64 + x) hX dX3_askLower_68 (by first | rfl | omega) ?_
        refine g_aload_n (pc := 69) hX dX3_askLower_69 rfl 1 rfl ?_
        refine g_get (pc := 70) (C := RX3) (T := TX3) (N := 11) (ci := 3) (v := .ref (am 6)) hX inX3_askLower_X3 0 rfl rfl 6 (by decide) flX3_askLower_29 rfl rfl dX3_askLower_70 ?_
        refine g_bipush (pc := 73) (v := (nI 64)) hX dX3_askLower_73 (by decide) ?_
        refine g_iload_n (pc := 75) hX dX3_askLower_75 rfl 2 rfl ?_
        refine g_iaddN (pc := 76) (r := 64 + x) hX dX3_askLower_76 (by first | rfl | omega) ?_
        refine g_zald (pc := 77) (v := (bI (S39.2.2.1.2 x))) hX 7 rfl (by omega) (by omega) (hM39.2.2.2.2.2.1 1 (by omega) x hx) dX3_askLower_77 ?_
        refine g_ifB_ne (pc := 78) (tgt := 85) hX dX3_askLower_78 (by decide) (fun c78 => ?_) (fun c78 => ?_)
        · refine g_iconst (pc := 85) (v := (nI 1)) hX dX3_askLower_85 (by decide) ?_
          refine g_goto (pc := 86) (tgt := 90) hX dX3_askLower_86 (by decide) ?_
          refine g_zast (pc := 90) (ws' := [(m, .inr (3, [.ref (am 0), .ref (am 1), .ref (am 2), .ref (am 3), .ref (am 4), .ref (am 5), .ref (am 6), .ref (am 7), .int (rd + 1), .int (wr + 1), .int (pI ((tTouch L x).1))])), (am 0, .inl (K.2.1, 2, .inl po)), (am 1, .inl (K.2.1, 2, .inl ca)), (am 2, .inl (K.2.1, 2, .inl u3.1)), (am 3, .inl (K.2.1, 8, .inl u3.2.1)), (am 4, .inl (K.2.1, 160, .inl u3.2.2.1)), (am 5, .inl (K.2.2.1, 128, .inl u3.2.2.2.1)), (am 6, .inl (K.2.2.1, 128, .inl (upd u39.1 (64 + x) (nI 1)))), (am 7, .inl (K.2.1, 6, .inl u39.2))]) hX 7 rfl (by omega) (by omega) (by decide) rfl dX3_askLower_90 ?_
          obtain ⟨S91, hS91⟩ : ∃ z : TS, z = tDirty S39 x true := ⟨_, rfl⟩
          have hM91 : mR (sF U S91) po ca u3.1 u3.2.1 u3.2.2.1 u3.2.2.2.1 (upd u39.1 (64 + x) (nI 1)) u39.2 := by
            have k := hM39.2.2.2.2.2.1.set (t := 1) (p := x) (by omega) hx true
            rw [show 64 * 1 + x = 64 + x by omega] at k
            have k2 := mR_set (t := 1) (S := tDirty S39 x true) hM39 (by omega) rfl rfl (hM39.2.2.1 1 (by omega)) (fun _ _ => rfl) (hM39.row (S := S39) rfl) (hM39.mk (S := S39) rfl) k (hM39.2.2.2.2.2.2 1 (by omega)) (fun _ _ => rfl)
            rw [sF_u1] at k2
            rw [hS91]
            exact k2
          have iS91 : tInv S91 := by rw [hS91]; exact iS39
          have hf91 : S91 = S39 := by rw [hS91]; exact tDirty_same c78
          refine g_iload_n (pc := 91) hX dX3_askLower_91 rfl 0 rfl ?_
          have e0 : cAsk (U, L, rd, wr) x false = (tHolds L x, (U, S91, rd + 1, wr + 1)) := by
            rw [hf91]
            subst hS3 hS39
            simp [cAsk, c9, c42]
          rw [e0] at hret
          exact hret (v := tHolds L x) (u := (u3.1, u3.2.1, u3.2.2.1, u3.2.2.2.1, upd u39.1 (64 + x) (nI 1), u39.2, (pI ((tTouch L x).1)))) dX3_askLower_92 (⟨rfl, hM91, iS91⟩) rfl
        · refine g_iload_n (pc := 81) hX dX3_askLower_81 rfl 3 rfl ?_
          refine g_ifB_eq (pc := 82) (tgt := 89) hX dX3_askLower_82 (by decide) (fun c82 => ?_) (fun c82 => absurd c82 (by decide))
          refine g_iconst (pc := 89) (v := (nI 0)) hX dX3_askLower_89 (by decide) ?_
          refine g_zast (pc := 90) (ws' := [(m, .inr (3, [.ref (am 0), .ref (am 1), .ref (am 2), .ref (am 3), .ref (am 4), .ref (am 5), .ref (am 6), .ref (am 7), .int (rd + 1), .int (wr + 1), .int (pI ((tTouch L x).1))])), (am 0, .inl (K.2.1, 2, .inl po)), (am 1, .inl (K.2.1, 2, .inl ca)), (am 2, .inl (K.2.1, 2, .inl u3.1)), (am 3, .inl (K.2.1, 8, .inl u3.2.1)), (am 4, .inl (K.2.1, 160, .inl u3.2.2.1)), (am 5, .inl (K.2.2.1, 128, .inl u3.2.2.2.1)), (am 6, .inl (K.2.2.1, 128, .inl (upd u39.1 (64 + x) (nI 0)))), (am 7, .inl (K.2.1, 6, .inl u39.2))]) hX 7 rfl (by omega) (by omega) (by decide) rfl dX3_askLower_90 ?_
          obtain ⟨S91, hS91⟩ : ∃ z : TS, z = tDirty S39 x false := ⟨_, rfl⟩
          have hM91 : mR (sF U S91) po ca u3.1 u3.2.1 u3.2.2.1 u3.2.2.2.1 (upd u39.1 (64 + x) (nI 0)) u39.2 := by
            have k := hM39.2.2.2.2.2.1.set (t := 1) (p := x) (by omega) hx false
            rw [show 64 * 1 + x = 64 + x by omega] at k
            have k2 := mR_set (t := 1) (S := tDirty S39 x false) hM39 (by omega) rfl rfl (hM39.2.2.1 1 (by omega)) (fun _ _ => rfl) (hM39.row (S := S39) rfl) (hM39.mk (S := S39) rfl) k (hM39.2.2.2.2.2.2 1 (by omega)) (fun _ _ => rfl)
            rw [sF_u1] at k2
            rw [hS91]
            exact k2
          have iS91 : tInv S91 := by rw [hS91]; exact iS39
          have hf91 : S91 = S39 := by rw [hS91]; exact tDirty_same c78
          refine g_iload_n (pc := 91) hX dX3_askLower_91 rfl 0 rfl ?_
          have e0 : cAsk (U, L, rd, wr) x false = (tHolds L x, (U, S91, rd + 1, wr + 1)) := by
            rw [hf91]
            subst hS3 hS39
            simp [cAsk, c9, c42]
          rw [e0] at hret
          exact hret (v := tHolds L x) (u := (u3.1, u3.2.1, u3.2.2.1, u3.2.2.2.1, upd u39.1 (64 + x) (nI 0), u39.2, (pI ((tTouch L x).1)))) dX3_askLower_92 (⟨rfl, hM91, iS91⟩) rfl
  | true =>
    refine g_aload_n (pc := 0) hX dX3_askLower_0 rfl 0 rfl ?_
    refine g_iconst (pc := 1) (v := (nI 1)) hX dX3_askLower_1 (by decide) ?_
    refine g_iload_n (pc := 2) hX dX3_askLower_2 rfl 1 rfl ?_
    refine g_ci (pc := 3) hX (wc := [(m, .inr (3, [.ref (am 0), .ref (am 1), .ref (am 2), .ref (am 3), .ref (am 4), .ref (am 5), .ref (am 6), .ref (am 7), .int rd, .int wr, .int vi])), (am 0, .inl (K.2.1, 2, .inl po)), (am 1, .inl (K.2.1, 2, .inl ca)), (am 2, .inl (K.2.1, 2, .inl go)), (am 3, .inl (K.2.1, 8, .inl le)), (am 4, .inl (K.2.1, 160, .inl pg)), (am 5, .inl (K.2.2.1, 128, .inl mk)), (am 6, .inl (K.2.2.1, 128, .inl we)), (am 7, .inl (K.2.1, 6, .inl co))]) (wr := []) (Wd' := fun u3 => [(m, .inr (3, [.ref (am 0), .ref (am 1), .ref (am 2), .ref (am 3), .ref (am 4), .ref (am 5), .ref (am 6), .ref (am 7), .int rd, .int wr, .int u3.2.2.2.2.2])), (am 0, .inl (K.2.1, 2, .inl po)), (am 1, .inl (K.2.1, 2, .inl ca)), (am 2, .inl (K.2.1, 2, .inl u3.1)), (am 3, .inl (K.2.1, 8, .inl u3.2.1)), (am 4, .inl (K.2.1, 160, .inl u3.2.2.1)), (am 5, .inl (K.2.2.1, 128, .inl u3.2.2.2.1)), (am 6, .inl (K.2.2.1, 128, .inl we)), (am 7, .inl (K.2.1, 6, .inl u3.2.2.2.2.1))]) (g_goV (pc := 3) hX (As := [.int (nI 1), .int (nI x)]) (stk := []) (wc := [(m, .inr (3, [.ref (am 0), .ref (am 1), .ref (am 2), .ref (am 3), .ref (am 4), .ref (am 5), .ref (am 6), .ref (am 7), .int rd, .int wr, .int vi])), (am 0, .inl (K.2.1, 2, .inl po)), (am 1, .inl (K.2.1, 2, .inl ca)), (am 2, .inl (K.2.1, 2, .inl go)), (am 3, .inl (K.2.1, 8, .inl le)), (am 4, .inl (K.2.1, 160, .inl pg)), (am 5, .inl (K.2.2.1, 128, .inl mk)), (am 6, .inl (K.2.2.1, 128, .inl we)), (am 7, .inl (K.2.1, 6, .inl co))]) (c_X3_touch l K m am po ca go le pg mk we co rd wr vi (sF U L) hM 1 (by omega) iL x hx) rfl rfl rfl gX3_askLower_X3_touch nX3_touchV rfl 0 rfl ⟨(Nat.le_of_ble_eq_true rfl), (Nat.le_of_ble_eq_true rfl)⟩ [0, 1, 2, 3, 4, 5, 6, 7, 8] rfl rfl rfl (Nat.le_of_ble_eq_true rfl) dX3_askLower_3 ⟨(Nat.le_of_ble_eq_true rfl), (Nat.le_of_ble_eq_true rfl)⟩) [0, 1, 2, 3, 4, 5, 6, 7, 8] [] [0, 1, 2, 3, 4, 5, 6, 7, 8] rfl rfl rfl (by decide) rfl (fun _ => rfl) (fun r u3 h3 => ?_)
    obtain ⟨rfl, hM3, hv3⟩ := h3
    refine g_top (y := (bI (tHolds L x))) rfl ?_
    rw [sF_1, sF_u1] at hM3
    rw [sF_1] at hv3
    obtain ⟨S3, hS3⟩ : ∃ z : TS, z = (tTouch L x).2 := ⟨_, rfl⟩
    rw [← hS3] at hM3
    have iS3 : tInv S3 := by rw [hS3]; exact (tTouch_inv hx iL).1
    have vS3 : ∀ p, (tTouch L x).1 = some p → p < 64 := (tTouch_inv hx iL).2
    refine g_ws (ws' := [(m, .inr (3, [.ref (am 0), .ref (am 1), .ref (am 2), .ref (am 3), .ref (am 4), .ref (am 5), .ref (am 6), .ref (am 7), .int rd, .int wr, .int (pI ((tTouch L x).1))])), (am 0, .inl (K.2.1, 2, .inl po)), (am 1, .inl (K.2.1, 2, .inl ca)), (am 2, .inl (K.2.1, 2, .inl u3.1)), (am 3, .inl (K.2.1, 8, .inl u3.2.1)), (am 4, .inl (K.2.1, 160, .inl u3.2.2.1)), (am 5, .inl (K.2.2.1, 128, .inl u3.2.2.2.1)), (am 6, .inl (K.2.2.1, 128, .inl we)), (am 7, .inl (K.2.1, 6, .inl u3.2.2.2.2.1))]) (by rw [hv3]) ?_
    refine g_istore_n (pc := 6) (lv' := [(3, .int (bI (tHolds L x))), (0, .ref m), (1, .int (nI x)), (2, .int (bI true))]) hX dX3_askLower_6 rfl (by decide) rfl ?_
    refine g_aload_n (pc := 7) hX dX3_askLower_7 rfl 1 rfl ?_
    refine g_iload_n (pc := 8) hX dX3_askLower_8 rfl 0 rfl ?_
    refine g_ifB_ne (pc := 9) (tgt := 25) hX dX3_askLower_9 (by decide) (fun c9 => ?_) (fun c9 => ?_)
    · refine g_aload_n (pc := 25) hX dX3_askLower_25 rfl 1 rfl ?_
      refine g_get (pc := 26) (C := RX3) (T := TX3) (N := 11) (ci := 3) (v := .int rd) hX inX3_askLower_X3 0 rfl rfl 8 (by decide) flX3_askLower_35 rfl rfl dX3_askLower_26 ?_
      refine g_put (pc := 29) (C := RX3) (T := TX3) (N := 11) (ci := 3) (v := .int rd) (ws' := [(m, .inr (3, [.ref (am 0), .ref (am 1), .ref (am 2), .ref (am 3), .ref (am 4), .ref (am 5), .ref (am 6), .ref (am 7), .int rd, .int wr, .int (pI ((tTouch L x).1))])), (am 0, .inl (K.2.1, 2, .inl po)), (am 1, .inl (K.2.1, 2, .inl ca)), (am 2, .inl (K.2.1, 2, .inl u3.1)), (am 3, .inl (K.2.1, 8, .inl u3.2.1)), (am 4, .inl (K.2.1, 160, .inl u3.2.2.1)), (am 5, .inl (K.2.2.1, 128, .inl u3.2.2.2.1)), (am 6, .inl (K.2.2.1, 128, .inl we)), (am 7, .inl (K.2.1, 6, .inl u3.2.2.2.2.1))]) hX inX3_askLower_X3 tyX3 tyX3_ok nmX3 0 rfl rfl 8 (by decide) flX3_askLower_35 rfl rfl rfl rfl (Nat.le_of_ble_eq_true rfl) rfl dX3_askLower_29 ?_
      refine g_aload_n (pc := 32) hX dX3_askLower_32 rfl 1 rfl ?_
      refine g_aload_n (pc := 33) hX dX3_askLower_33 rfl 1 rfl ?_
      refine g_iconst (pc := 34) (v := (nI 1)) hX dX3_askLower_34 (by decide) ?_
      refine g_aload_n (pc := 35) hX dX3_askLower_35 rfl 1 rfl ?_
      refine g_get (pc := 36) (C := RX3) (T := TX3) (N := 11) (ci := 3) (v := .int (pI ((tTouch L x).1))) hX inX3_askLower_X3 0 rfl rfl 10 (by decide) flX3_askLower_65 rfl rfl dX3_askLower_36 ?_
      refine g_ci (pc := 39) hX (wc := [(m, .inr (3, [.ref (am 0), .ref (am 1), .ref (am 2), .ref (am 3), .ref (am 4), .ref (am 5), .ref (am 6), .ref (am 7), .int rd, .int wr, .int (pI ((tTouch L x).1))])), (am 0, .inl (K.2.1, 2, .inl po)), (am 1, .inl (K.2.1, 2, .inl ca)), (am 2, .inl (K.2.1, 2, .inl u3.1)), (am 3, .inl (K.2.1, 8, .inl u3.2.1)), (am 4, .inl (K.2.1, 160, .inl u3.2.2.1)), (am 5, .inl (K.2.2.1, 128, .inl u3.2.2.2.1)), (am 6, .inl (K.2.2.1, 128, .inl we)), (am 7, .inl (K.2.1, 6, .inl u3.2.2.2.2.1))]) (wr := []) (Wd' := fun u39 => [(m, .inr (3, [.ref (am 0), .ref (am 1), .ref (am 2), .ref (am 3), .ref (am 4), .ref (am 5), .ref (am 6), .ref (am 7), .int rd, .int wr, .int (pI ((tTouch L x).1))])), (am 0, .inl (K.2.1, 2, .inl po)), (am 1, .inl (K.2.1, 2, .inl ca)), (am 2, .inl (K.2.1, 2, .inl u3.1)), (am 3, .inl (K.2.1, 8, .inl u3.2.1)), (am 4, .inl (K.2.1, 160, .inl u3.2.2.1)), (am 5, .inl (K.2.2.1, 128, .inl u3.2.2.2.1)), (am 6, .inl (K.2.2.1, 128, .inl u39.1)), (am 7, .inl (K.2.1, 6, .inl u39.2))]) (g_goV (pc := 39) hX (As := [.int (nI 1), .int (pI ((tTouch L x).1))]) (stk := [.ref m]) (wc := [(m, .inr (3, [.ref (am 0), .ref (am 1), .ref (am 2), .ref (am 3), .ref (am 4), .ref (am 5), .ref (am 6), .ref (am 7), .int rd, .int wr, .int (pI ((tTouch L x).1))])), (am 0, .inl (K.2.1, 2, .inl po)), (am 1, .inl (K.2.1, 2, .inl ca)), (am 2, .inl (K.2.1, 2, .inl u3.1)), (am 3, .inl (K.2.1, 8, .inl u3.2.1)), (am 4, .inl (K.2.1, 160, .inl u3.2.2.1)), (am 5, .inl (K.2.2.1, 128, .inl u3.2.2.2.1)), (am 6, .inl (K.2.2.1, 128, .inl we)), (am 7, .inl (K.2.1, 6, .inl u3.2.2.2.2.1))]) (c_X3_dries l K m am po ca u3.1 u3.2.1 u3.2.2.1 u3.2.2.2.1 we u3.2.2.2.2.1 rd wr (pI ((tTouch L x).1)) (sF U S3) hM3 1 (by omega) ((tTouch L x).1) vS3) rfl rfl rfl gX3_askLower_X3_dries nX3_driesV rfl 0 rfl ⟨(Nat.le_of_ble_eq_true rfl), (Nat.le_of_ble_eq_true rfl)⟩ [0, 1, 2, 3, 4, 5, 6, 7, 8] rfl rfl rfl (Nat.le_of_ble_eq_true rfl) dX3_askLower_39 ⟨(Nat.le_of_ble_eq_true rfl), (Nat.le_of_ble_eq_true rfl)⟩) [0, 1, 2, 3, 4, 5, 6, 7, 8] [] [0, 1, 2, 3, 4, 5, 6, 7, 8] rfl rfl rfl (by decide) rfl (fun _ => rfl) (fun r u39 h39 => ?_)
      obtain ⟨rfl, hM39⟩ := h39
      refine g_top (y := (bI ((tVic S3 ((tTouch L x).1)).1))) rfl ?_
      rw [sF_1, sF_u1] at hM39
      obtain ⟨S39, hS39⟩ : ∃ z : TS, z = (tVic S3 ((tTouch L x).1)).2 := ⟨_, rfl⟩
      rw [← hS39] at hM39
      have iS39 : tInv S39 := by rw [hS39]; exact tVic_inv iS3 _
      refine g_ifB_eq (pc := 42) (tgt := 54) hX dX3_askLower_42 (by decide) (fun c42 => ?_) (fun c42 => ?_)
      · refine g_aload_n (pc := 54) hX dX3_askLower_54 rfl 1 rfl ?_
        refine g_get (pc := 55) (C := RX3) (T := TX3) (N := 11) (ci := 3) (v := .int wr) hX inX3_askLower_X3 0 rfl rfl 9 (by decide) flX3_askLower_39 rfl rfl dX3_askLower_55 ?_
        refine g_put (pc := 58) (C := RX3) (T := TX3) (N := 11) (ci := 3) (v := .int wr) (ws' := [(m, .inr (3, [.ref (am 0), .ref (am 1), .ref (am 2), .ref (am 3), .ref (am 4), .ref (am 5), .ref (am 6), .ref (am 7), .int rd, .int wr, .int (pI ((tTouch L x).1))])), (am 0, .inl (K.2.1, 2, .inl po)), (am 1, .inl (K.2.1, 2, .inl ca)), (am 2, .inl (K.2.1, 2, .inl u3.1)), (am 3, .inl (K.2.1, 8, .inl u3.2.1)), (am 4, .inl (K.2.1, 160, .inl u3.2.2.1)), (am 5, .inl (K.2.2.1, 128, .inl u3.2.2.2.1)), (am 6, .inl (K.2.2.1, 128, .inl u39.1)), (am 7, .inl (K.2.1, 6, .inl u39.2))]) hX inX3_askLower_X3 tyX3 tyX3_ok nmX3 0 rfl rfl 9 (by decide) flX3_askLower_39 rfl rfl rfl rfl (Nat.le_of_ble_eq_true rfl) rfl dX3_askLower_58 ?_
        refine g_aload_n (pc := 61) hX dX3_askLower_61 rfl 1 rfl ?_
        refine g_get (pc := 62) (C := RX3) (T := TX3) (N := 11) (ci := 3) (v := .ref (am 6)) hX inX3_askLower_X3 0 rfl rfl 6 (by decide) flX3_askLower_29 rfl rfl dX3_askLower_62 ?_
        refine g_bipush (pc := 65) (v := (nI 64)) hX dX3_askLower_65 (by decide) ?_
        refine g_iload_n (pc := 67) hX dX3_askLower_67 rfl 2 rfl ?_
        refine g_iaddN (pc := 68) (r := 64 + x) hX dX3_askLower_68 (by first | rfl | omega) ?_
        refine g_aload_n (pc := 69) hX dX3_askLower_69 rfl 1 rfl ?_
        refine g_get (pc := 70) (C := RX3) (T := TX3) (N := 11) (ci := 3) (v := .ref (am 6)) hX inX3_askLower_X3 0 rfl rfl 6 (by decide) flX3_askLower_29 rfl rfl dX3_askLower_70 ?_
        refine g_bipush (pc := 73) (v := (nI 64)) hX dX3_askLower_73 (by decide) ?_
        refine g_iload_n (pc := 75) hX dX3_askLower_75 rfl 2 rfl ?_
        refine g_iaddN (pc := 76) (r := 64 + x) hX dX3_askLower_76 (by first | rfl | omega) ?_
        refine g_zald (pc := 77) (v := (bI (S39.2.2.1.2 x))) hX 7 rfl (by omega) (by omega) (hM39.2.2.2.2.2.1 1 (by omega) x hx) dX3_askLower_77 ?_
        refine g_ifB_ne (pc := 78) (tgt := 85) hX dX3_askLower_78 (by decide) (fun c78 => ?_) (fun c78 => ?_)
        · refine g_iconst (pc := 85) (v := (nI 1)) hX dX3_askLower_85 (by decide) ?_
          refine g_goto (pc := 86) (tgt := 90) hX dX3_askLower_86 (by decide) ?_
          refine g_zast (pc := 90) (ws' := [(m, .inr (3, [.ref (am 0), .ref (am 1), .ref (am 2), .ref (am 3), .ref (am 4), .ref (am 5), .ref (am 6), .ref (am 7), .int rd, .int wr, .int (pI ((tTouch L x).1))])), (am 0, .inl (K.2.1, 2, .inl po)), (am 1, .inl (K.2.1, 2, .inl ca)), (am 2, .inl (K.2.1, 2, .inl u3.1)), (am 3, .inl (K.2.1, 8, .inl u3.2.1)), (am 4, .inl (K.2.1, 160, .inl u3.2.2.1)), (am 5, .inl (K.2.2.1, 128, .inl u3.2.2.2.1)), (am 6, .inl (K.2.2.1, 128, .inl (upd u39.1 (64 + x) (nI 1)))), (am 7, .inl (K.2.1, 6, .inl u39.2))]) hX 7 rfl (by omega) (by omega) (by decide) rfl dX3_askLower_90 ?_
          obtain ⟨S91, hS91⟩ : ∃ z : TS, z = tDirty S39 x true := ⟨_, rfl⟩
          have hM91 : mR (sF U S91) po ca u3.1 u3.2.1 u3.2.2.1 u3.2.2.2.1 (upd u39.1 (64 + x) (nI 1)) u39.2 := by
            have k := hM39.2.2.2.2.2.1.set (t := 1) (p := x) (by omega) hx true
            rw [show 64 * 1 + x = 64 + x by omega] at k
            have k2 := mR_set (t := 1) (S := tDirty S39 x true) hM39 (by omega) rfl rfl (hM39.2.2.1 1 (by omega)) (fun _ _ => rfl) (hM39.row (S := S39) rfl) (hM39.mk (S := S39) rfl) k (hM39.2.2.2.2.2.2 1 (by omega)) (fun _ _ => rfl)
            rw [sF_u1] at k2
            rw [hS91]
            exact k2
          have iS91 : tInv S91 := by rw [hS91]; exact iS39
          refine g_iload_n (pc := 91) hX dX3_askLower_91 rfl 0 rfl ?_
          have e0 : cAsk (U, L, rd, wr) x true = (tHolds L x, (U, S91, rd, wr)) := by
            subst hS3 hS39 hS91
            simp [cAsk, c9, c42]
          rw [e0] at hret
          exact hret (v := tHolds L x) (u := (u3.1, u3.2.1, u3.2.2.1, u3.2.2.2.1, upd u39.1 (64 + x) (nI 1), u39.2, (pI ((tTouch L x).1)))) dX3_askLower_92 (⟨rfl, hM91, iS91⟩) rfl
        · refine g_iload_n (pc := 81) hX dX3_askLower_81 rfl 3 rfl ?_
          refine g_ifB_eq (pc := 82) (tgt := 89) hX dX3_askLower_82 (by decide) (fun c82 => absurd c82 (by decide)) (fun c82 => ?_)
          refine g_iconst (pc := 85) (v := (nI 1)) hX dX3_askLower_85 (by decide) ?_
          refine g_goto (pc := 86) (tgt := 90) hX dX3_askLower_86 (by decide) ?_
          refine g_zast (pc := 90) (ws' := [(m, .inr (3, [.ref (am 0), .ref (am 1), .ref (am 2), .ref (am 3), .ref (am 4), .ref (am 5), .ref (am 6), .ref (am 7), .int rd, .int wr, .int (pI ((tTouch L x).1))])), (am 0, .inl (K.2.1, 2, .inl po)), (am 1, .inl (K.2.1, 2, .inl ca)), (am 2, .inl (K.2.1, 2, .inl u3.1)), (am 3, .inl (K.2.1, 8, .inl u3.2.1)), (am 4, .inl (K.2.1, 160, .inl u3.2.2.1)), (am 5, .inl (K.2.2.1, 128, .inl u3.2.2.2.1)), (am 6, .inl (K.2.2.1, 128, .inl (upd u39.1 (64 + x) (nI 1)))), (am 7, .inl (K.2.1, 6, .inl u39.2))]) hX 7 rfl (by omega) (by omega) (by decide) rfl dX3_askLower_90 ?_
          obtain ⟨S91, hS91⟩ : ∃ z : TS, z = tDirty S39 x true := ⟨_, rfl⟩
          have hM91 : mR (sF U S91) po ca u3.1 u3.2.1 u3.2.2.1 u3.2.2.2.1 (upd u39.1 (64 + x) (nI 1)) u39.2 := by
            have k := hM39.2.2.2.2.2.1.set (t := 1) (p := x) (by omega) hx true
            rw [show 64 * 1 + x = 64 + x by omega] at k
            have k2 := mR_set (t := 1) (S := tDirty S39 x true) hM39 (by omega) rfl rfl (hM39.2.2.1 1 (by omega)) (fun _ _ => rfl) (hM39.row (S := S39) rfl) (hM39.mk (S := S39) rfl) k (hM39.2.2.2.2.2.2 1 (by omega)) (fun _ _ => rfl)
            rw [sF_u1] at k2
            rw [hS91]
            exact k2
          have iS91 : tInv S91 := by rw [hS91]; exact iS39
          refine g_iload_n (pc := 91) hX dX3_askLower_91 rfl 0 rfl ?_
          have e0 : cAsk (U, L, rd, wr) x true = (tHolds L x, (U, S91, rd, wr)) := by
            subst hS3 hS39 hS91
            simp [cAsk, c9, c42]
          rw [e0] at hret
          exact hret (v := tHolds L x) (u := (u3.1, u3.2.1, u3.2.2.1, u3.2.2.2.1, upd u39.1 (64 + x) (nI 1), u39.2, (pI ((tTouch L x).1)))) dX3_askLower_92 (⟨rfl, hM91, iS91⟩) rfl
      · refine g_aload_n (pc := 45) hX dX3_askLower_45 rfl 1 rfl ?_
        refine g_get (pc := 46) (C := RX3) (T := TX3) (N := 11) (ci := 3) (v := .int wr) hX inX3_askLower_X3 0 rfl rfl 9 (by decide) flX3_askLower_39 rfl rfl dX3_askLower_46 ?_
        refine g_iconst (pc := 49) (v := (nI 1)) hX dX3_askLower_49 (by decide) ?_
        refine g_iadd (pc := 50) (z := wr + 1) hX dX3_askLower_50 rfl ?_
        refine g_goto (pc := 51) (tgt := 58) hX dX3_askLower_51 (by decide) ?_
        refine g_put (pc := 58) (C := RX3) (T := TX3) (N := 11) (ci := 3) (v := .int (wr + 1)) (ws' := [(m, .inr (3, [.ref (am 0), .ref (am 1), .ref (am 2), .ref (am 3), .ref (am 4), .ref (am 5), .ref (am 6), .ref (am 7), .int rd, .int (wr + 1), .int (pI ((tTouch L x).1))])), (am 0, .inl (K.2.1, 2, .inl po)), (am 1, .inl (K.2.1, 2, .inl ca)), (am 2, .inl (K.2.1, 2, .inl u3.1)), (am 3, .inl (K.2.1, 8, .inl u3.2.1)), (am 4, .inl (K.2.1, 160, .inl u3.2.2.1)), (am 5, .inl (K.2.2.1, 128, .inl u3.2.2.2.1)), (am 6, .inl (K.2.2.1, 128, .inl u39.1)), (am 7, .inl (K.2.1, 6, .inl u39.2))]) hX inX3_askLower_X3 tyX3 tyX3_ok nmX3 0 rfl rfl 9 (by decide) flX3_askLower_39 rfl rfl rfl rfl (Nat.le_of_ble_eq_true rfl) rfl dX3_askLower_58 ?_
        refine g_aload_n (pc := 61) hX dX3_askLower_61 rfl 1 rfl ?_
        refine g_get (pc := 62) (C := RX3) (T := TX3) (N := 11) (ci := 3) (v := .ref (am 6)) hX inX3_askLower_X3 0 rfl rfl 6 (by decide) flX3_askLower_29 rfl rfl dX3_askLower_62 ?_
        refine g_bipush (pc := 65) (v := (nI 64)) hX dX3_askLower_65 (by decide) ?_
        refine g_iload_n (pc := 67) hX dX3_askLower_67 rfl 2 rfl ?_
        refine g_iaddN (pc := 68) (r := 64 + x) hX dX3_askLower_68 (by first | rfl | omega) ?_
        refine g_aload_n (pc := 69) hX dX3_askLower_69 rfl 1 rfl ?_
        refine g_get (pc := 70) (C := RX3) (T := TX3) (N := 11) (ci := 3) (v := .ref (am 6)) hX inX3_askLower_X3 0 rfl rfl 6 (by decide) flX3_askLower_29 rfl rfl dX3_askLower_70 ?_
        refine g_bipush (pc := 73) (v := (nI 64)) hX dX3_askLower_73 (by decide) ?_
        refine g_iload_n (pc := 75) hX dX3_askLower_75 rfl 2 rfl ?_
        refine g_iaddN (pc := 76) (r := 64 + x) hX dX3_askLower_76 (by first | rfl | omega) ?_
        refine g_zald (pc := 77) (v := (bI (S39.2.2.1.2 x))) hX 7 rfl (by omega) (by omega) (hM39.2.2.2.2.2.1 1 (by omega) x hx) dX3_askLower_77 ?_
        refine g_ifB_ne (pc := 78) (tgt := 85) hX dX3_askLower_78 (by decide) (fun c78 => ?_) (fun c78 => ?_)
        · refine g_iconst (pc := 85) (v := (nI 1)) hX dX3_askLower_85 (by decide) ?_
          refine g_goto (pc := 86) (tgt := 90) hX dX3_askLower_86 (by decide) ?_
          refine g_zast (pc := 90) (ws' := [(m, .inr (3, [.ref (am 0), .ref (am 1), .ref (am 2), .ref (am 3), .ref (am 4), .ref (am 5), .ref (am 6), .ref (am 7), .int rd, .int (wr + 1), .int (pI ((tTouch L x).1))])), (am 0, .inl (K.2.1, 2, .inl po)), (am 1, .inl (K.2.1, 2, .inl ca)), (am 2, .inl (K.2.1, 2, .inl u3.1)), (am 3, .inl (K.2.1, 8, .inl u3.2.1)), (am 4, .inl (K.2.1, 160, .inl u3.2.2.1)), (am 5, .inl (K.2.2.1, 128, .inl u3.2.2.2.1)), (am 6, .inl (K.2.2.1, 128, .inl (upd u39.1 (64 + x) (nI 1)))), (am 7, .inl (K.2.1, 6, .inl u39.2))]) hX 7 rfl (by omega) (by omega) (by decide) rfl dX3_askLower_90 ?_
          obtain ⟨S91, hS91⟩ : ∃ z : TS, z = tDirty S39 x true := ⟨_, rfl⟩
          have hM91 : mR (sF U S91) po ca u3.1 u3.2.1 u3.2.2.1 u3.2.2.2.1 (upd u39.1 (64 + x) (nI 1)) u39.2 := by
            have k := hM39.2.2.2.2.2.1.set (t := 1) (p := x) (by omega) hx true
            rw [show 64 * 1 + x = 64 + x by omega] at k
            have k2 := mR_set (t := 1) (S := tDirty S39 x true) hM39 (by omega) rfl rfl (hM39.2.2.1 1 (by omega)) (fun _ _ => rfl) (hM39.row (S := S39) rfl) (hM39.mk (S := S39) rfl) k (hM39.2.2.2.2.2.2 1 (by omega)) (fun _ _ => rfl)
            rw [sF_u1] at k2
            rw [hS91]
            exact k2
          have iS91 : tInv S91 := by rw [hS91]; exact iS39
          refine g_iload_n (pc := 91) hX dX3_askLower_91 rfl 0 rfl ?_
          have e0 : cAsk (U, L, rd, wr) x true = (tHolds L x, (U, S91, rd, wr + 1)) := by
            subst hS3 hS39 hS91
            simp [cAsk, c9, c42]
          rw [e0] at hret
          exact hret (v := tHolds L x) (u := (u3.1, u3.2.1, u3.2.2.1, u3.2.2.2.1, upd u39.1 (64 + x) (nI 1), u39.2, (pI ((tTouch L x).1)))) dX3_askLower_92 (⟨rfl, hM91, iS91⟩) rfl
        · refine g_iload_n (pc := 81) hX dX3_askLower_81 rfl 3 rfl ?_
          refine g_ifB_eq (pc := 82) (tgt := 89) hX dX3_askLower_82 (by decide) (fun c82 => absurd c82 (by decide)) (fun c82 => ?_)
          refine g_iconst (pc := 85) (v := (nI 1)) hX dX3_askLower_85 (by decide) ?_
          refine g_goto (pc := 86) (tgt := 90) hX dX3_askLower_86 (by decide) ?_
          refine g_zast (pc := 90) (ws' := [(m, .inr (3, [.ref (am 0), .ref (am 1), .ref (am 2), .ref (am 3), .ref (am 4), .ref (am 5), .ref (am 6), .ref (am 7), .int rd, .int (wr + 1), .int (pI ((tTouch L x).1))])), (am 0, .inl (K.2.1, 2, .inl po)), (am 1, .inl (K.2.1, 2, .inl ca)), (am 2, .inl (K.2.1, 2, .inl u3.1)), (am 3, .inl (K.2.1, 8, .inl u3.2.1)), (am 4, .inl (K.2.1, 160, .inl u3.2.2.1)), (am 5, .inl (K.2.2.1, 128, .inl u3.2.2.2.1)), (am 6, .inl (K.2.2.1, 128, .inl (upd u39.1 (64 + x) (nI 1)))), (am 7, .inl (K.2.1, 6, .inl u39.2))]) hX 7 rfl (by omega) (by omega) (by decide) rfl dX3_askLower_90 ?_
          obtain ⟨S91, hS91⟩ : ∃ z : TS, z = tDirty S39 x true := ⟨_, rfl⟩
          have hM91 : mR (sF U S91) po ca u3.1 u3.2.1 u3.2.2.1 u3.2.2.2.1 (upd u39.1 (64 + x) (nI 1)) u39.2 := by
            have k := hM39.2.2.2.2.2.1.set (t := 1) (p := x) (by omega) hx true
            rw [show 64 * 1 + x = 64 + x by omega] at k
            have k2 := mR_set (t := 1) (S := tDirty S39 x true) hM39 (by omega) rfl rfl (hM39.2.2.1 1 (by omega)) (fun _ _ => rfl) (hM39.row (S := S39) rfl) (hM39.mk (S := S39) rfl) k (hM39.2.2.2.2.2.2 1 (by omega)) (fun _ _ => rfl)
            rw [sF_u1] at k2
            rw [hS91]
            exact k2
          have iS91 : tInv S91 := by rw [hS91]; exact iS39
          refine g_iload_n (pc := 91) hX dX3_askLower_91 rfl 0 rfl ?_
          have e0 : cAsk (U, L, rd, wr) x true = (tHolds L x, (U, S91, rd, wr + 1)) := by
            subst hS3 hS39 hS91
            simp [cAsk, c9, c42]
          rw [e0] at hret
          exact hret (v := tHolds L x) (u := (u3.1, u3.2.1, u3.2.2.1, u3.2.2.2.1, upd u39.1 (64 + x) (nI 1), u39.2, (pI ((tTouch L x).1)))) dX3_askLower_92 (⟨rfl, hM91, iS91⟩) rfl
    · refine g_iload_n (pc := 12) hX dX3_askLower_12 rfl 3 rfl ?_
      refine g_ifB_ne (pc := 13) (tgt := 25) hX dX3_askLower_13 (by decide) (fun c13 => ?_) (fun c13 => absurd c13 (by decide))
      refine g_aload_n (pc := 25) hX dX3_askLower_25 rfl 1 rfl ?_
      refine g_get (pc := 26) (C := RX3) (T := TX3) (N := 11) (ci := 3) (v := .int rd) hX inX3_askLower_X3 0 rfl rfl 8 (by decide) flX3_askLower_35 rfl rfl dX3_askLower_26 ?_
      refine g_put (pc := 29) (C := RX3) (T := TX3) (N := 11) (ci := 3) (v := .int rd) (ws' := [(m, .inr (3, [.ref (am 0), .ref (am 1), .ref (am 2), .ref (am 3), .ref (am 4), .ref (am 5), .ref (am 6), .ref (am 7), .int rd, .int wr, .int (pI ((tTouch L x).1))])), (am 0, .inl (K.2.1, 2, .inl po)), (am 1, .inl (K.2.1, 2, .inl ca)), (am 2, .inl (K.2.1, 2, .inl u3.1)), (am 3, .inl (K.2.1, 8, .inl u3.2.1)), (am 4, .inl (K.2.1, 160, .inl u3.2.2.1)), (am 5, .inl (K.2.2.1, 128, .inl u3.2.2.2.1)), (am 6, .inl (K.2.2.1, 128, .inl we)), (am 7, .inl (K.2.1, 6, .inl u3.2.2.2.2.1))]) hX inX3_askLower_X3 tyX3 tyX3_ok nmX3 0 rfl rfl 8 (by decide) flX3_askLower_35 rfl rfl rfl rfl (Nat.le_of_ble_eq_true rfl) rfl dX3_askLower_29 ?_
      refine g_aload_n (pc := 32) hX dX3_askLower_32 rfl 1 rfl ?_
      refine g_aload_n (pc := 33) hX dX3_askLower_33 rfl 1 rfl ?_
      refine g_iconst (pc := 34) (v := (nI 1)) hX dX3_askLower_34 (by decide) ?_
      refine g_aload_n (pc := 35) hX dX3_askLower_35 rfl 1 rfl ?_
      refine g_get (pc := 36) (C := RX3) (T := TX3) (N := 11) (ci := 3) (v := .int (pI ((tTouch L x).1))) hX inX3_askLower_X3 0 rfl rfl 10 (by decide) flX3_askLower_65 rfl rfl dX3_askLower_36 ?_
      refine g_ci (pc := 39) hX (wc := [(m, .inr (3, [.ref (am 0), .ref (am 1), .ref (am 2), .ref (am 3), .ref (am 4), .ref (am 5), .ref (am 6), .ref (am 7), .int rd, .int wr, .int (pI ((tTouch L x).1))])), (am 0, .inl (K.2.1, 2, .inl po)), (am 1, .inl (K.2.1, 2, .inl ca)), (am 2, .inl (K.2.1, 2, .inl u3.1)), (am 3, .inl (K.2.1, 8, .inl u3.2.1)), (am 4, .inl (K.2.1, 160, .inl u3.2.2.1)), (am 5, .inl (K.2.2.1, 128, .inl u3.2.2.2.1)), (am 6, .inl (K.2.2.1, 128, .inl we)), (am 7, .inl (K.2.1, 6, .inl u3.2.2.2.2.1))]) (wr := []) (Wd' := fun u39 => [(m, .inr (3, [.ref (am 0), .ref (am 1), .ref (am 2), .ref (am 3), .ref (am 4), .ref (am 5), .ref (am 6), .ref (am 7), .int rd, .int wr, .int (pI ((tTouch L x).1))])), (am 0, .inl (K.2.1, 2, .inl po)), (am 1, .inl (K.2.1, 2, .inl ca)), (am 2, .inl (K.2.1, 2, .inl u3.1)), (am 3, .inl (K.2.1, 8, .inl u3.2.1)), (am 4, .inl (K.2.1, 160, .inl u3.2.2.1)), (am 5, .inl (K.2.2.1, 128, .inl u3.2.2.2.1)), (am 6, .inl (K.2.2.1, 128, .inl u39.1)), (am 7, .inl (K.2.1, 6, .inl u39.2))]) (g_goV (pc := 39) hX (As := [.int (nI 1), .int (pI ((tTouch L x).1))]) (stk := [.ref m]) (wc := [(m, .inr (3, [.ref (am 0), .ref (am 1), .ref (am 2), .ref (am 3), .ref (am 4), .ref (am 5), .ref (am 6), .ref (am 7), .int rd, .int wr, .int (pI ((tTouch L x).1))])), (am 0, .inl (K.2.1, 2, .inl po)), (am 1, .inl (K.2.1, 2, .inl ca)), (am 2, .inl (K.2.1, 2, .inl u3.1)), (am 3, .inl (K.2.1, 8, .inl u3.2.1)), (am 4, .inl (K.2.1, 160, .inl u3.2.2.1)), (am 5, .inl (K.2.2.1, 128, .inl u3.2.2.2.1)), (am 6, .inl (K.2.2.1, 128, .inl we)), (am 7, .inl (K.2.1, 6, .inl u3.2.2.2.2.1))]) (c_X3_dries l K m am po ca u3.1 u3.2.1 u3.2.2.1 u3.2.2.2.1 we u3.2.2.2.2.1 rd wr (pI ((tTouch L x).1)) (sF U S3) hM3 1 (by omega) ((tTouch L x).1) vS3) rfl rfl rfl gX3_askLower_X3_dries nX3_driesV rfl 0 rfl ⟨(Nat.le_of_ble_eq_true rfl), (Nat.le_of_ble_eq_true rfl)⟩ [0, 1, 2, 3, 4, 5, 6, 7, 8] rfl rfl rfl (Nat.le_of_ble_eq_true rfl) dX3_askLower_39 ⟨(Nat.le_of_ble_eq_true rfl), (Nat.le_of_ble_eq_true rfl)⟩) [0, 1, 2, 3, 4, 5, 6, 7, 8] [] [0, 1, 2, 3, 4, 5, 6, 7, 8] rfl rfl rfl (by decide) rfl (fun _ => rfl) (fun r u39 h39 => ?_)
      obtain ⟨rfl, hM39⟩ := h39
      refine g_top (y := (bI ((tVic S3 ((tTouch L x).1)).1))) rfl ?_
      rw [sF_1, sF_u1] at hM39
      obtain ⟨S39, hS39⟩ : ∃ z : TS, z = (tVic S3 ((tTouch L x).1)).2 := ⟨_, rfl⟩
      rw [← hS39] at hM39
      have iS39 : tInv S39 := by rw [hS39]; exact tVic_inv iS3 _
      refine g_ifB_eq (pc := 42) (tgt := 54) hX dX3_askLower_42 (by decide) (fun c42 => ?_) (fun c42 => ?_)
      · refine g_aload_n (pc := 54) hX dX3_askLower_54 rfl 1 rfl ?_
        refine g_get (pc := 55) (C := RX3) (T := TX3) (N := 11) (ci := 3) (v := .int wr) hX inX3_askLower_X3 0 rfl rfl 9 (by decide) flX3_askLower_39 rfl rfl dX3_askLower_55 ?_
        refine g_put (pc := 58) (C := RX3) (T := TX3) (N := 11) (ci := 3) (v := .int wr) (ws' := [(m, .inr (3, [.ref (am 0), .ref (am 1), .ref (am 2), .ref (am 3), .ref (am 4), .ref (am 5), .ref (am 6), .ref (am 7), .int rd, .int wr, .int (pI ((tTouch L x).1))])), (am 0, .inl (K.2.1, 2, .inl po)), (am 1, .inl (K.2.1, 2, .inl ca)), (am 2, .inl (K.2.1, 2, .inl u3.1)), (am 3, .inl (K.2.1, 8, .inl u3.2.1)), (am 4, .inl (K.2.1, 160, .inl u3.2.2.1)), (am 5, .inl (K.2.2.1, 128, .inl u3.2.2.2.1)), (am 6, .inl (K.2.2.1, 128, .inl u39.1)), (am 7, .inl (K.2.1, 6, .inl u39.2))]) hX inX3_askLower_X3 tyX3 tyX3_ok nmX3 0 rfl rfl 9 (by decide) flX3_askLower_39 rfl rfl rfl rfl (Nat.le_of_ble_eq_true rfl) rfl dX3_askLower_58 ?_
        refine g_aload_n (pc := 61) hX dX3_askLower_61 rfl 1 rfl ?_
        refine g_get (pc := 62) (C := RX3) (T := TX3) (N := 11) (ci := 3) (v := .ref (am 6)) hX inX3_askLower_X3 0 rfl rfl 6 (by decide) flX3_askLower_29 rfl rfl dX3_askLower_62 ?_
        refine g_bipush (pc := 65) (v := (nI 64)) hX dX3_askLower_65 (by decide) ?_
        refine g_iload_n (pc := 67) hX dX3_askLower_67 rfl 2 rfl ?_
        refine g_iaddN (pc := 68) (r := 64 + x) hX dX3_askLower_68 (by first | rfl | omega) ?_
        refine g_aload_n (pc := 69) hX dX3_askLower_69 rfl 1 rfl ?_
        refine g_get (pc := 70) (C := RX3) (T := TX3) (N := 11) (ci := 3) (v := .ref (am 6)) hX inX3_askLower_X3 0 rfl rfl 6 (by decide) flX3_askLower_29 rfl rfl dX3_askLower_70 ?_
        refine g_bipush (pc := 73) (v := (nI 64)) hX dX3_askLower_73 (by decide) ?_
        refine g_iload_n (pc := 75) hX dX3_askLower_75 rfl 2 rfl ?_
        refine g_iaddN (pc := 76) (r := 64 + x) hX dX3_askLower_76 (by first | rfl | omega) ?_
        refine g_zald (pc := 77) (v := (bI (S39.2.2.1.2 x))) hX 7 rfl (by omega) (by omega) (hM39.2.2.2.2.2.1 1 (by omega) x hx) dX3_askLower_77 ?_
        refine g_ifB_ne (pc := 78) (tgt := 85) hX dX3_askLower_78 (by decide) (fun c78 => ?_) (fun c78 => ?_)
        · refine g_iconst (pc := 85) (v := (nI 1)) hX dX3_askLower_85 (by decide) ?_
          refine g_goto (pc := 86) (tgt := 90) hX dX3_askLower_86 (by decide) ?_
          refine g_zast (pc := 90) (ws' := [(m, .inr (3, [.ref (am 0), .ref (am 1), .ref (am 2), .ref (am 3), .ref (am 4), .ref (am 5), .ref (am 6), .ref (am 7), .int rd, .int wr, .int (pI ((tTouch L x).1))])), (am 0, .inl (K.2.1, 2, .inl po)), (am 1, .inl (K.2.1, 2, .inl ca)), (am 2, .inl (K.2.1, 2, .inl u3.1)), (am 3, .inl (K.2.1, 8, .inl u3.2.1)), (am 4, .inl (K.2.1, 160, .inl u3.2.2.1)), (am 5, .inl (K.2.2.1, 128, .inl u3.2.2.2.1)), (am 6, .inl (K.2.2.1, 128, .inl (upd u39.1 (64 + x) (nI 1)))), (am 7, .inl (K.2.1, 6, .inl u39.2))]) hX 7 rfl (by omega) (by omega) (by decide) rfl dX3_askLower_90 ?_
          obtain ⟨S91, hS91⟩ : ∃ z : TS, z = tDirty S39 x true := ⟨_, rfl⟩
          have hM91 : mR (sF U S91) po ca u3.1 u3.2.1 u3.2.2.1 u3.2.2.2.1 (upd u39.1 (64 + x) (nI 1)) u39.2 := by
            have k := hM39.2.2.2.2.2.1.set (t := 1) (p := x) (by omega) hx true
            rw [show 64 * 1 + x = 64 + x by omega] at k
            have k2 := mR_set (t := 1) (S := tDirty S39 x true) hM39 (by omega) rfl rfl (hM39.2.2.1 1 (by omega)) (fun _ _ => rfl) (hM39.row (S := S39) rfl) (hM39.mk (S := S39) rfl) k (hM39.2.2.2.2.2.2 1 (by omega)) (fun _ _ => rfl)
            rw [sF_u1] at k2
            rw [hS91]
            exact k2
          have iS91 : tInv S91 := by rw [hS91]; exact iS39
          refine g_iload_n (pc := 91) hX dX3_askLower_91 rfl 0 rfl ?_
          have e0 : cAsk (U, L, rd, wr) x true = (tHolds L x, (U, S91, rd, wr)) := by
            subst hS3 hS39 hS91
            simp [cAsk, c9, c42]
          rw [e0] at hret
          exact hret (v := tHolds L x) (u := (u3.1, u3.2.1, u3.2.2.1, u3.2.2.2.1, upd u39.1 (64 + x) (nI 1), u39.2, (pI ((tTouch L x).1)))) dX3_askLower_92 (⟨rfl, hM91, iS91⟩) rfl
        · refine g_iload_n (pc := 81) hX dX3_askLower_81 rfl 3 rfl ?_
          refine g_ifB_eq (pc := 82) (tgt := 89) hX dX3_askLower_82 (by decide) (fun c82 => absurd c82 (by decide)) (fun c82 => ?_)
          refine g_iconst (pc := 85) (v := (nI 1)) hX dX3_askLower_85 (by decide) ?_
          refine g_goto (pc := 86) (tgt := 90) hX dX3_askLower_86 (by decide) ?_
          refine g_zast (pc := 90) (ws' := [(m, .inr (3, [.ref (am 0), .ref (am 1), .ref (am 2), .ref (am 3), .ref (am 4), .ref (am 5), .ref (am 6), .ref (am 7), .int rd, .int wr, .int (pI ((tTouch L x).1))])), (am 0, .inl (K.2.1, 2, .inl po)), (am 1, .inl (K.2.1, 2, .inl ca)), (am 2, .inl (K.2.1, 2, .inl u3.1)), (am 3, .inl (K.2.1, 8, .inl u3.2.1)), (am 4, .inl (K.2.1, 160, .inl u3.2.2.1)), (am 5, .inl (K.2.2.1, 128, .inl u3.2.2.2.1)), (am 6, .inl (K.2.2.1, 128, .inl (upd u39.1 (64 + x) (nI 1)))), (am 7, .inl (K.2.1, 6, .inl u39.2))]) hX 7 rfl (by omega) (by omega) (by decide) rfl dX3_askLower_90 ?_
          obtain ⟨S91, hS91⟩ : ∃ z : TS, z = tDirty S39 x true := ⟨_, rfl⟩
          have hM91 : mR (sF U S91) po ca u3.1 u3.2.1 u3.2.2.1 u3.2.2.2.1 (upd u39.1 (64 + x) (nI 1)) u39.2 := by
            have k := hM39.2.2.2.2.2.1.set (t := 1) (p := x) (by omega) hx true
            rw [show 64 * 1 + x = 64 + x by omega] at k
            have k2 := mR_set (t := 1) (S := tDirty S39 x true) hM39 (by omega) rfl rfl (hM39.2.2.1 1 (by omega)) (fun _ _ => rfl) (hM39.row (S := S39) rfl) (hM39.mk (S := S39) rfl) k (hM39.2.2.2.2.2.2 1 (by omega)) (fun _ _ => rfl)
            rw [sF_u1] at k2
            rw [hS91]
            exact k2
          have iS91 : tInv S91 := by rw [hS91]; exact iS39
          refine g_iload_n (pc := 91) hX dX3_askLower_91 rfl 0 rfl ?_
          have e0 : cAsk (U, L, rd, wr) x true = (tHolds L x, (U, S91, rd, wr)) := by
            subst hS3 hS39 hS91
            simp [cAsk, c9, c42]
          rw [e0] at hret
          exact hret (v := tHolds L x) (u := (u3.1, u3.2.1, u3.2.2.1, u3.2.2.2.1, upd u39.1 (64 + x) (nI 1), u39.2, (pI ((tTouch L x).1)))) dX3_askLower_92 (⟨rfl, hM91, iS91⟩) rfl
      · refine g_aload_n (pc := 45) hX dX3_askLower_45 rfl 1 rfl ?_
        refine g_get (pc := 46) (C := RX3) (T := TX3) (N := 11) (ci := 3) (v := .int wr) hX inX3_askLower_X3 0 rfl rfl 9 (by decide) flX3_askLower_39 rfl rfl dX3_askLower_46 ?_
        refine g_iconst (pc := 49) (v := (nI 1)) hX dX3_askLower_49 (by decide) ?_
        refine g_iadd (pc := 50) (z := wr + 1) hX dX3_askLower_50 rfl ?_
        refine g_goto (pc := 51) (tgt := 58) hX dX3_askLower_51 (by decide) ?_
        refine g_put (pc := 58) (C := RX3) (T := TX3) (N := 11) (ci := 3) (v := .int (wr + 1)) (ws' := [(m, .inr (3, [.ref (am 0), .ref (am 1), .ref (am 2), .ref (am 3), .ref (am 4), .ref (am 5), .ref (am 6), .ref (am 7), .int rd, .int (wr + 1), .int (pI ((tTouch L x).1))])), (am 0, .inl (K.2.1, 2, .inl po)), (am 1, .inl (K.2.1, 2, .inl ca)), (am 2, .inl (K.2.1, 2, .inl u3.1)), (am 3, .inl (K.2.1, 8, .inl u3.2.1)), (am 4, .inl (K.2.1, 160, .inl u3.2.2.1)), (am 5, .inl (K.2.2.1, 128, .inl u3.2.2.2.1)), (am 6, .inl (K.2.2.1, 128, .inl u39.1)), (am 7, .inl (K.2.1, 6, .inl u39.2))]) hX inX3_askLower_X3 tyX3 tyX3_ok nmX3 0 rfl rfl 9 (by decide) flX3_askLower_39 rfl rfl rfl rfl (Nat.le_of_ble_eq_true rfl) rfl dX3_askLower_58 ?_
        refine g_aload_n (pc := 61) hX dX3_askLower_61 rfl 1 rfl ?_
        refine g_get (pc := 62) (C := RX3) (T := TX3) (N := 11) (ci := 3) (v := .ref (am 6)) hX inX3_askLower_X3 0 rfl rfl 6 (by decide) flX3_askLower_29 rfl rfl dX3_askLower_62 ?_
        refine g_bipush (pc := 65) (v := (nI 64)) hX dX3_askLower_65 (by decide) ?_
        refine g_iload_n (pc := 67) hX dX3_askLower_67 rfl 2 rfl ?_
        refine g_iaddN (pc := 68) (r := 64 + x) hX dX3_askLower_68 (by first | rfl | omega) ?_
        refine g_aload_n (pc := 69) hX dX3_askLower_69 rfl 1 rfl ?_
        refine g_get (pc := 70) (C := RX3) (T := TX3) (N := 11) (ci := 3) (v := .ref (am 6)) hX inX3_askLower_X3 0 rfl rfl 6 (by decide) flX3_askLower_29 rfl rfl dX3_askLower_70 ?_
        refine g_bipush (pc := 73) (v := (nI 64)) hX dX3_askLower_73 (by decide) ?_
        refine g_iload_n (pc := 75) hX dX3_askLower_75 rfl 2 rfl ?_
        refine g_iaddN (pc := 76) (r := 64 + x) hX dX3_askLower_76 (by first | rfl | omega) ?_
        refine g_zald (pc := 77) (v := (bI (S39.2.2.1.2 x))) hX 7 rfl (by omega) (by omega) (hM39.2.2.2.2.2.1 1 (by omega) x hx) dX3_askLower_77 ?_
        refine g_ifB_ne (pc := 78) (tgt := 85) hX dX3_askLower_78 (by decide) (fun c78 => ?_) (fun c78 => ?_)
        · refine g_iconst (pc := 85) (v := (nI 1)) hX dX3_askLower_85 (by decide) ?_
          refine g_goto (pc := 86) (tgt := 90) hX dX3_askLower_86 (by decide) ?_
          refine g_zast (pc := 90) (ws' := [(m, .inr (3, [.ref (am 0), .ref (am 1), .ref (am 2), .ref (am 3), .ref (am 4), .ref (am 5), .ref (am 6), .ref (am 7), .int rd, .int (wr + 1), .int (pI ((tTouch L x).1))])), (am 0, .inl (K.2.1, 2, .inl po)), (am 1, .inl (K.2.1, 2, .inl ca)), (am 2, .inl (K.2.1, 2, .inl u3.1)), (am 3, .inl (K.2.1, 8, .inl u3.2.1)), (am 4, .inl (K.2.1, 160, .inl u3.2.2.1)), (am 5, .inl (K.2.2.1, 128, .inl u3.2.2.2.1)), (am 6, .inl (K.2.2.1, 128, .inl (upd u39.1 (64 + x) (nI 1)))), (am 7, .inl (K.2.1, 6, .inl u39.2))]) hX 7 rfl (by omega) (by omega) (by decide) rfl dX3_askLower_90 ?_
          obtain ⟨S91, hS91⟩ : ∃ z : TS, z = tDirty S39 x true := ⟨_, rfl⟩
          have hM91 : mR (sF U S91) po ca u3.1 u3.2.1 u3.2.2.1 u3.2.2.2.1 (upd u39.1 (64 + x) (nI 1)) u39.2 := by
            have k := hM39.2.2.2.2.2.1.set (t := 1) (p := x) (by omega) hx true
            rw [show 64 * 1 + x = 64 + x by omega] at k
            have k2 := mR_set (t := 1) (S := tDirty S39 x true) hM39 (by omega) rfl rfl (hM39.2.2.1 1 (by omega)) (fun _ _ => rfl) (hM39.row (S := S39) rfl) (hM39.mk (S := S39) rfl) k (hM39.2.2.2.2.2.2 1 (by omega)) (fun _ _ => rfl)
            rw [sF_u1] at k2
            rw [hS91]
            exact k2
          have iS91 : tInv S91 := by rw [hS91]; exact iS39
          refine g_iload_n (pc := 91) hX dX3_askLower_91 rfl 0 rfl ?_
          have e0 : cAsk (U, L, rd, wr) x true = (tHolds L x, (U, S91, rd, wr + 1)) := by
            subst hS3 hS39 hS91
            simp [cAsk, c9, c42]
          rw [e0] at hret
          exact hret (v := tHolds L x) (u := (u3.1, u3.2.1, u3.2.2.1, u3.2.2.2.1, upd u39.1 (64 + x) (nI 1), u39.2, (pI ((tTouch L x).1)))) dX3_askLower_92 (⟨rfl, hM91, iS91⟩) rfl
        · refine g_iload_n (pc := 81) hX dX3_askLower_81 rfl 3 rfl ?_
          refine g_ifB_eq (pc := 82) (tgt := 89) hX dX3_askLower_82 (by decide) (fun c82 => absurd c82 (by decide)) (fun c82 => ?_)
          refine g_iconst (pc := 85) (v := (nI 1)) hX dX3_askLower_85 (by decide) ?_
          refine g_goto (pc := 86) (tgt := 90) hX dX3_askLower_86 (by decide) ?_
          refine g_zast (pc := 90) (ws' := [(m, .inr (3, [.ref (am 0), .ref (am 1), .ref (am 2), .ref (am 3), .ref (am 4), .ref (am 5), .ref (am 6), .ref (am 7), .int rd, .int (wr + 1), .int (pI ((tTouch L x).1))])), (am 0, .inl (K.2.1, 2, .inl po)), (am 1, .inl (K.2.1, 2, .inl ca)), (am 2, .inl (K.2.1, 2, .inl u3.1)), (am 3, .inl (K.2.1, 8, .inl u3.2.1)), (am 4, .inl (K.2.1, 160, .inl u3.2.2.1)), (am 5, .inl (K.2.2.1, 128, .inl u3.2.2.2.1)), (am 6, .inl (K.2.2.1, 128, .inl (upd u39.1 (64 + x) (nI 1)))), (am 7, .inl (K.2.1, 6, .inl u39.2))]) hX 7 rfl (by omega) (by omega) (by decide) rfl dX3_askLower_90 ?_
          obtain ⟨S91, hS91⟩ : ∃ z : TS, z = tDirty S39 x true := ⟨_, rfl⟩
          have hM91 : mR (sF U S91) po ca u3.1 u3.2.1 u3.2.2.1 u3.2.2.2.1 (upd u39.1 (64 + x) (nI 1)) u39.2 := by
            have k := hM39.2.2.2.2.2.1.set (t := 1) (p := x) (by omega) hx true
            rw [show 64 * 1 + x = 64 + x by omega] at k
            have k2 := mR_set (t := 1) (S := tDirty S39 x true) hM39 (by omega) rfl rfl (hM39.2.2.1 1 (by omega)) (fun _ _ => rfl) (hM39.row (S := S39) rfl) (hM39.mk (S := S39) rfl) k (hM39.2.2.2.2.2.2 1 (by omega)) (fun _ _ => rfl)
            rw [sF_u1] at k2
            rw [hS91]
            exact k2
          have iS91 : tInv S91 := by rw [hS91]; exact iS39
          refine g_iload_n (pc := 91) hX dX3_askLower_91 rfl 0 rfl ?_
          have e0 : cAsk (U, L, rd, wr) x true = (tHolds L x, (U, S91, rd, wr + 1)) := by
            subst hS3 hS39 hS91
            simp [cAsk, c9, c42]
          rw [e0] at hret
          exact hret (v := tHolds L x) (u := (u3.1, u3.2.1, u3.2.2.1, u3.2.2.2.1, upd u39.1 (64 + x) (nI 1), u39.2, (pI ((tTouch L x).1)))) dX3_askLower_92 (⟨rfl, hM91, iS91⟩) rfl
abbrev rmX3_isPage : Room := { frames := 0, cells := 0, slots := 0, locals := 0 }
set_option maxHeartbeats 4000000 in
set_option maxRecDepth 100000 in
theorem c_X3_isPage (l : Launch) (K : gT) (x : Int32) : Ci l yX3_isPage wsX3_isPage rmX3_isPage K [.int x] [] (fun (r : Int32) (u : Unit) => r = bI (okPg x)) (fun u => []) 0 0 := by
  refine m_z (cc := cX3_isPage) (own := RX3) (maxL := 1) (lv0 := [(0, .int x)]) (by decide) rfl rfl (Nat.le_of_ble_eq_true rfl) rfl ?_
  intro X hX hin hret
  refine g_iload_n (pc := 0) hX dX3_isPage_0 rfl 0 rfl ?_
  refine g_if_lt (pc := 1) (tgt := 14) hX dX3_isPage_1 (by decide) (fun c1 => ?_) (fun c1 => ?_)
  · refine g_iconst (pc := 14) (v := (nI 0)) hX dX3_isPage_14 (by decide) ?_
    refine g_top (y := bI false) (by decide) ?_
    exact hret (v := false) (u := ()) dX3_isPage_15 (by rw [show okPg x = false from by unfold okPg; rw [decide_eq_false (fun q => absurd c1 (Int32.not_lt.mpr q))]; rfl]) rfl
  · refine g_iload_n (pc := 4) hX dX3_isPage_4 rfl 0 rfl ?_
    refine g_bipush (pc := 5) (v := (nI 64)) hX dX3_isPage_5 (by decide) ?_
    refine g_icmp_ge (pc := 7) (tgt := 14) hX dX3_isPage_7 (by decide) (fun c7 => ?_) (fun c7 => ?_)
    · refine g_iconst (pc := 14) (v := (nI 0)) hX dX3_isPage_14 (by decide) ?_
      refine g_top (y := bI false) (by decide) ?_
      exact hret (v := false) (u := ()) dX3_isPage_15 (by rw [show okPg x = false from by unfold okPg; rw [decide_eq_false (p := x < 64) (fun q => absurd c7 (Int32.not_le.mpr q)), Bool.and_false]]) rfl
    · refine g_iconst (pc := 10) (v := (nI 1)) hX dX3_isPage_10 (by decide) ?_
      refine g_goto (pc := 11) (tgt := 15) hX dX3_isPage_11 (by decide) ?_
      refine g_top (y := bI true) (by decide) ?_
      exact hret (v := true) (u := ()) dX3_isPage_15 (by rw [show okPg x = true from by unfold okPg; rw [decide_eq_true (p := 0 ≤ x) (Int32.not_lt.mp c1), decide_eq_true (p := x < 64) (Int32.not_le.mp c7)]; rfl]) rfl
def okT (t : Int32) : Bool := decide (t = 0) || decide (t = 1)
abbrev rmX3_isTier : Room := { frames := 0, cells := 0, slots := 0, locals := 0 }
set_option maxHeartbeats 4000000 in
set_option maxRecDepth 100000 in
theorem c_X3_isTier (l : Launch) (K : gT) (t : Int32) : Ci l yX3_isTier wsX3_isTier rmX3_isTier K [.int t] [] (fun (r : Int32) (u : Unit) => r = bI (okT t)) (fun u => []) 0 0 := by
  refine m_z (cc := cX3_isTier) (own := RX3) (maxL := 1) (lv0 := [(0, .int t)]) (by decide) rfl rfl (Nat.le_of_ble_eq_true rfl) rfl ?_
  intro X hX hin hret
  refine g_iload_n (pc := 0) hX dX3_isTier_0 rfl 0 rfl ?_
  refine g_if_eq (pc := 1) (tgt := 9) hX dX3_isTier_1 (by decide) (fun c1 => ?_) (fun c1 => ?_)
  · refine g_iconst (pc := 9) (v := (nI 1)) hX dX3_isTier_9 (by decide) ?_
    refine g_goto (pc := 10) (tgt := 14) hX dX3_isTier_10 (by decide) ?_
    refine g_top (y := bI true) (by decide) ?_
    exact hret (v := true) (u := ()) dX3_isTier_14 (by rw [show okT t = true from by unfold okT; rw [decide_eq_true c1]; rfl]) rfl
  · refine g_iload_n (pc := 4) hX dX3_isTier_4 rfl 0 rfl ?_
    refine g_iconst (pc := 5) (v := (nI 1)) hX dX3_isTier_5 (by decide) ?_
    refine g_icmp_ne (pc := 6) (tgt := 13) hX dX3_isTier_6 (by decide) (fun c6 => ?_) (fun c6 => ?_)
    · refine g_iconst (pc := 13) (v := (nI 0)) hX dX3_isTier_13 (by decide) ?_
      refine g_top (y := bI false) (by decide) ?_
      exact hret (v := false) (u := ()) dX3_isTier_14 (by rw [show okT t = false from by unfold okT; rw [decide_eq_false c1, decide_eq_false (p := t = 1) c6]; rfl]) rfl
    · refine g_iconst (pc := 9) (v := (nI 1)) hX dX3_isTier_9 (by decide) ?_
      refine g_goto (pc := 10) (tgt := 14) hX dX3_isTier_10 (by decide) ?_
      refine g_top (y := bI true) (by decide) ?_
      exact hret (v := true) (u := ()) dX3_isTier_14 (by rw [show okT t = true from by unfold okT; rw [decide_eq_true (p := t = 1) c6, Bool.or_true]]) rfl
