/-! THE REFERENCE: its policies -/
abbrev rmX3_recent : Room := { frames := 3, cells := 0, slots := 0, locals := 70 }
theorem nX3_isInV : yX3_isIn.cls = RX3 ∧ yX3_isIn.cls ≠ "java/lang/invoke/MethodHandle" ∧ yX3_isIn.cls ≠ "java/lang/invoke/VarHandle" ∧ (parseMethodDescriptor yX3_isIn.desc).map (fun d => d.parameters.length) = some 2 := by decide +kernel
theorem flX3_recent_19 : Cond.fieldLink RX3 19 "TwoTierCacheModel" "lengths" "[I" ∈ wsX3_recent := by decide +kernel
theorem inX3_recent_X3 : ∀ w ∈ u_ws RX3 TX3 11, w ∈ wsX3_recent := by decide +kernel
theorem flX3_recent_13 : Cond.fieldLink RX3 13 "TwoTierCacheModel" "capacities" "[I" ∈ wsX3_recent := by decide +kernel
theorem nX3_cutTailV : yX3_cutTail.cls = RX3 ∧ yX3_cutTail.cls ≠ "java/lang/invoke/MethodHandle" ∧ yX3_cutTail.cls ≠ "java/lang/invoke/VarHandle" ∧ (parseMethodDescriptor yX3_cutTail.desc).map (fun d => d.parameters.length) = some 1 := by decide +kernel
theorem flX3_recent_65 : Cond.fieldLink RX3 65 "TwoTierCacheModel" "victim" "I" ∈ wsX3_recent := by decide +kernel
theorem nX3_moveV : yX3_move.cls = RX3 ∧ yX3_move.cls ≠ "java/lang/invoke/MethodHandle" ∧ yX3_move.cls ≠ "java/lang/invoke/VarHandle" ∧ (parseMethodDescriptor yX3_move.desc).map (fun d => d.parameters.length) = some 3 := by decide +kernel
set_option maxHeartbeats 4000000 in
set_option maxRecDepth 100000 in
/-- recent -/
theorem c_X3_recent (l : Launch) (K : gT) (m : Nat) (am : Nat → Nat) (po ca go le pg mk we co : Nat → Int32) (rd wr : Int32) (t : Nat) (ht : t < 2) (c : Nat) (a b d e : List Nat) (RO : Nat → List Nat) (hR : rowsR le pg (rr t a b d e RO)) (hca : ca t = nI c) (hc1 : 1 ≤ c) (hc2 : c ≤ 16) (ha : a.length ≤ c) (x : Nat) (hx : x < 64) : Ci l yX3_recent wsX3_recent rmX3_recent K [.ref m, .int (nI t), .int (nI x)] (mW K m am po ca go le pg mk we co rd wr (-1)) (fun (r : Int32) (u : (Nat → Int32) × (Nat → Int32) × Int32) => r = bI (decide (x ∈ a)) ∧ rowsR u.1 u.2.1 (rr t (sRecent c a x).2 b d e RO) ∧ u.2.2 = pI (sRecent c a x).1) (fun u => mW K m am po ca go u.1 u.2.1 mk we co rd wr u.2.2) 0 0 := by
  refine m_z (cc := cX3_recent) (own := RX3) (maxL := 4) (lv0 := [(0, .ref m), (1, .int (nI t)), (2, .int (nI x))]) (by decide) rfl rfl (Nat.le_of_ble_eq_true rfl) rfl ?_
  intro X hX hin hret
  refine g_ws (ws' := [(m, .inr (3, [.ref (am 0), .ref (am 1), .ref (am 2), .ref (am 3), .ref (am 4), .ref (am 5), .ref (am 6), .ref (am 7), .int rd, .int wr, .int (-1)])), (am 0, .inl (K.2.1, 2, .inl po)), (am 1, .inl (K.2.1, 2, .inl ca)), (am 2, .inl (K.2.1, 2, .inl go)), (am 3, .inl (K.2.1, 8, .inl le)), (am 4, .inl (K.2.1, 160, .inl pg)), (am 5, .inl (K.2.2.1, 128, .inl mk)), (am 6, .inl (K.2.2.1, 128, .inl we)), (am 7, .inl (K.2.1, 6, .inl co))]) rfl ?_
  have la := (rr_l0 hR ht).2.1
  have lb := (rr_l1 hR ht).2.1
  have ld := (rr_l2 hR ht).2.1
  have lle := (rr_l3 hR ht).2.1
  generalize hs : sRecent c a x = rs at hret
  obtain ⟨o, a2⟩ := rs
  refine g_iconst (pc := 0) (v := (nI 4)) hX dX3_recent_0 (by decide) ?_
  refine g_iload_n (pc := 1) hX dX3_recent_1 rfl 1 rfl ?_
  refine g_imulN (pc := 2) (r := 4 * t) hX dX3_recent_2 (by first | rfl | omega) ?_
  refine g_istore_n (pc := 3) (lv' := [(3, .int (nI (4 * t))), (0, .ref m), (1, .int (nI t)), (2, .int (nI x))]) hX dX3_recent_3 rfl (by decide) rfl ?_
  refine g_aload_n (pc := 4) hX dX3_recent_4 rfl 1 rfl ?_
  refine g_iload_n (pc := 5) hX dX3_recent_5 rfl 0 rfl ?_
  refine g_iload_n (pc := 6) hX dX3_recent_6 rfl 3 rfl ?_
  refine g_ci (pc := 7) hX (wc := [(m, .inr (3, [.ref (am 0), .ref (am 1), .ref (am 2), .ref (am 3), .ref (am 4), .ref (am 5), .ref (am 6), .ref (am 7), .int rd, .int wr, .int (-1)])), (am 0, .inl (K.2.1, 2, .inl po)), (am 1, .inl (K.2.1, 2, .inl ca)), (am 2, .inl (K.2.1, 2, .inl go)), (am 3, .inl (K.2.1, 8, .inl le)), (am 4, .inl (K.2.1, 160, .inl pg)), (am 5, .inl (K.2.2.1, 128, .inl mk)), (am 6, .inl (K.2.2.1, 128, .inl we)), (am 7, .inl (K.2.1, 6, .inl co))]) (wr := []) (Wd' := fun u => [(m, .inr (3, [.ref (am 0), .ref (am 1), .ref (am 2), .ref (am 3), .ref (am 4), .ref (am 5), .ref (am 6), .ref (am 7), .int rd, .int wr, .int (-1)])), (am 0, .inl (K.2.1, 2, .inl po)), (am 1, .inl (K.2.1, 2, .inl ca)), (am 2, .inl (K.2.1, 2, .inl go)), (am 3, .inl (K.2.1, 8, .inl le)), (am 4, .inl (K.2.1, 160, .inl pg)), (am 5, .inl (K.2.2.1, 128, .inl mk)), (am 6, .inl (K.2.2.1, 128, .inl we)), (am 7, .inl (K.2.1, 6, .inl co))]) (g_goV (pc := 7) hX (As := [.int (nI (4 * t)), .int (nI x)]) (stk := []) (wc := [(m, .inr (3, [.ref (am 0), .ref (am 1), .ref (am 2), .ref (am 3), .ref (am 4), .ref (am 5), .ref (am 6), .ref (am 7), .int rd, .int wr, .int (-1)])), (am 0, .inl (K.2.1, 2, .inl po)), (am 1, .inl (K.2.1, 2, .inl ca)), (am 2, .inl (K.2.1, 2, .inl go)), (am 3, .inl (K.2.1, 8, .inl le)), (am 4, .inl (K.2.1, 160, .inl pg)), (am 5, .inl (K.2.2.1, 128, .inl mk)), (am 6, .inl (K.2.2.1, 128, .inl we)), (am 7, .inl (K.2.1, 6, .inl co))]) (c_X3_isIn l K m am po ca go le pg mk we co rd wr (-1) (rr t a b d e RO) hR (4 * t) (by omega) x hx) rfl rfl rfl gX3_recent_X3_isIn nX3_isInV rfl 0 rfl ⟨(Nat.le_of_ble_eq_true rfl), (Nat.le_of_ble_eq_true rfl)⟩ [0, 1, 2, 3, 4, 5, 6, 7, 8] rfl rfl rfl (Nat.le_of_ble_eq_true rfl) dX3_recent_7 ⟨(Nat.le_of_ble_eq_true rfl), (Nat.le_of_ble_eq_true rfl)⟩) [0, 1, 2, 3, 4, 5, 6, 7, 8] [] [0, 1, 2, 3, 4, 5, 6, 7, 8] rfl rfl rfl (by decide) rfl (fun _ => rfl) (fun r u h7 => ?_)
  obtain rfl := h7
  refine g_top (y := (bI (decide (x ∈ a)))) (by rw [rr_0]) ?_
  refine g_ifB_eq (pc := 10) (tgt := 22) hX dX3_recent_10 (by decide) (fun c10 => ?_) (fun c10 => ?_)
  · have hm : x ∉ a := of_decide_eq_false c10
    refine g_aload_n (pc := 22) hX dX3_recent_22 rfl 1 rfl ?_
    refine g_get (pc := 23) (C := RX3) (T := TX3) (N := 11) (ci := 3) (v := .ref (am 3)) hX inX3_recent_X3 0 rfl rfl 3 (by decide) flX3_recent_19 rfl rfl dX3_recent_23 ?_
    refine g_iload_n (pc := 26) hX dX3_recent_26 rfl 0 rfl ?_
    refine g_iald (pc := 27) (v := (nI a.length)) hX 4 rfl (by omega) (by omega) (rr_l0 hR ht).1 dX3_recent_27 ?_
    refine g_aload_n (pc := 28) hX dX3_recent_28 rfl 1 rfl ?_
    refine g_get (pc := 29) (C := RX3) (T := TX3) (N := 11) (ci := 3) (v := .ref (am 1)) hX inX3_recent_X3 0 rfl rfl 1 (by decide) flX3_recent_13 rfl rfl dX3_recent_29 ?_
    refine g_iload_n (pc := 32) hX dX3_recent_32 rfl 2 rfl ?_
    refine g_iald (pc := 33) (v := (nI c)) hX 2 rfl (by omega) (by omega) hca dX3_recent_33 ?_
    refine g_icmpN_ne (pc := 34) (tgt := 46) hX (by omega) (by omega) dX3_recent_34 (by decide) (fun c34 => ?_) (fun c34 => ?_)
    · refine g_aload_n (pc := 46) hX dX3_recent_46 rfl 1 rfl ?_
      refine g_iload_n (pc := 47) hX dX3_recent_47 rfl 0 rfl ?_
      refine g_iload_n (pc := 48) hX dX3_recent_48 rfl 3 rfl ?_
      refine g_cv (pc := 49) hX (wc := [(m, .inr (3, [.ref (am 0), .ref (am 1), .ref (am 2), .ref (am 3), .ref (am 4), .ref (am 5), .ref (am 6), .ref (am 7), .int rd, .int wr, .int (-1)])), (am 0, .inl (K.2.1, 2, .inl po)), (am 1, .inl (K.2.1, 2, .inl ca)), (am 2, .inl (K.2.1, 2, .inl go)), (am 3, .inl (K.2.1, 8, .inl le)), (am 4, .inl (K.2.1, 160, .inl pg)), (am 5, .inl (K.2.2.1, 128, .inl mk)), (am 6, .inl (K.2.2.1, 128, .inl we)), (am 7, .inl (K.2.1, 6, .inl co))]) (wr := []) (Wd' := fun u49 => [(m, .inr (3, [.ref (am 0), .ref (am 1), .ref (am 2), .ref (am 3), .ref (am 4), .ref (am 5), .ref (am 6), .ref (am 7), .int rd, .int wr, .int (-1)])), (am 0, .inl (K.2.1, 2, .inl po)), (am 1, .inl (K.2.1, 2, .inl ca)), (am 2, .inl (K.2.1, 2, .inl go)), (am 3, .inl (K.2.1, 8, .inl u49.1)), (am 4, .inl (K.2.1, 160, .inl u49.2)), (am 5, .inl (K.2.2.1, 128, .inl mk)), (am 6, .inl (K.2.2.1, 128, .inl we)), (am 7, .inl (K.2.1, 6, .inl co))]) (g_goV (pc := 49) hX (As := [.int (nI (4 * t)), .int (nI x)]) (stk := []) (wc := [(m, .inr (3, [.ref (am 0), .ref (am 1), .ref (am 2), .ref (am 3), .ref (am 4), .ref (am 5), .ref (am 6), .ref (am 7), .int rd, .int wr, .int (-1)])), (am 0, .inl (K.2.1, 2, .inl po)), (am 1, .inl (K.2.1, 2, .inl ca)), (am 2, .inl (K.2.1, 2, .inl go)), (am 3, .inl (K.2.1, 8, .inl le)), (am 4, .inl (K.2.1, 160, .inl pg)), (am 5, .inl (K.2.2.1, 128, .inl mk)), (am 6, .inl (K.2.2.1, 128, .inl we)), (am 7, .inl (K.2.1, 6, .inl co))]) (c_X3_toHead l K m am po ca go le pg mk we co rd wr (-1) (rr t a b d e RO) hR (4 * t) (by omega) x hx (by rw [rr_0]; show a.length + 1 ≤ 20; omega)) rfl rfl rfl gX3_recent_X3_toHead nX3_toHeadV rfl 0 rfl ⟨(Nat.le_of_ble_eq_true rfl), (Nat.le_of_ble_eq_true rfl)⟩ [0, 1, 2, 3, 4, 5, 6, 7, 8] rfl rfl rfl (Nat.le_of_ble_eq_true rfl) dX3_recent_49 ⟨(Nat.le_of_ble_eq_true rfl), (Nat.le_of_ble_eq_true rfl)⟩) [0, 1, 2, 3, 4, 5, 6, 7, 8] [] [0, 1, 2, 3, 4, 5, 6, 7, 8] rfl rfl rfl (by decide) rfl (fun _ => rfl) (fun u49 h49 => ?_)
      have hR49 := h49
      rw [rr_0, rr_u0] at hR49
      refine g_iconst (pc := 52) (v := (nI 0)) hX dX3_recent_52 (by decide) ?_
      refine g_top (y := bI false) (by decide) ?_
      rw [show sRecent c a x = (none, x :: a) from by unfold sRecent; rw [if_neg hm, if_neg c34]] at hs
      cases hs
      exact hret (v := false) (u := (u49.1, u49.2, (-1))) dX3_recent_53 (⟨by rw [bI_nomem hm]; rfl, hR49, rfl⟩) rfl
    · refine g_aload_n (pc := 37) hX dX3_recent_37 rfl 1 rfl ?_
      refine g_aload_n (pc := 38) hX dX3_recent_38 rfl 1 rfl ?_
      refine g_iload_n (pc := 39) hX dX3_recent_39 rfl 0 rfl ?_
      refine g_ci (pc := 40) hX (wc := [(m, .inr (3, [.ref (am 0), .ref (am 1), .ref (am 2), .ref (am 3), .ref (am 4), .ref (am 5), .ref (am 6), .ref (am 7), .int rd, .int wr, .int (-1)])), (am 0, .inl (K.2.1, 2, .inl po)), (am 1, .inl (K.2.1, 2, .inl ca)), (am 2, .inl (K.2.1, 2, .inl go)), (am 3, .inl (K.2.1, 8, .inl le)), (am 4, .inl (K.2.1, 160, .inl pg)), (am 5, .inl (K.2.2.1, 128, .inl mk)), (am 6, .inl (K.2.2.1, 128, .inl we)), (am 7, .inl (K.2.1, 6, .inl co))]) (wr := []) (Wd' := fun u40 => [(m, .inr (3, [.ref (am 0), .ref (am 1), .ref (am 2), .ref (am 3), .ref (am 4), .ref (am 5), .ref (am 6), .ref (am 7), .int rd, .int wr, .int (-1)])), (am 0, .inl (K.2.1, 2, .inl po)), (am 1, .inl (K.2.1, 2, .inl ca)), (am 2, .inl (K.2.1, 2, .inl go)), (am 3, .inl (K.2.1, 8, .inl u40)), (am 4, .inl (K.2.1, 160, .inl pg)), (am 5, .inl (K.2.2.1, 128, .inl mk)), (am 6, .inl (K.2.2.1, 128, .inl we)), (am 7, .inl (K.2.1, 6, .inl co))]) (g_goV (pc := 40) hX (As := [.int (nI (4 * t))]) (stk := [.ref m]) (wc := [(m, .inr (3, [.ref (am 0), .ref (am 1), .ref (am 2), .ref (am 3), .ref (am 4), .ref (am 5), .ref (am 6), .ref (am 7), .int rd, .int wr, .int (-1)])), (am 0, .inl (K.2.1, 2, .inl po)), (am 1, .inl (K.2.1, 2, .inl ca)), (am 2, .inl (K.2.1, 2, .inl go)), (am 3, .inl (K.2.1, 8, .inl le)), (am 4, .inl (K.2.1, 160, .inl pg)), (am 5, .inl (K.2.2.1, 128, .inl mk)), (am 6, .inl (K.2.2.1, 128, .inl we)), (am 7, .inl (K.2.1, 6, .inl co))]) (c_X3_cutTail l K m am po ca go le pg mk we co rd wr (-1) (rr t a b d e RO) hR (4 * t) (by omega) (by rw [rr_0]; omega)) rfl rfl rfl gX3_recent_X3_cutTail nX3_cutTailV rfl 0 rfl ⟨(Nat.le_of_ble_eq_true rfl), (Nat.le_of_ble_eq_true rfl)⟩ [0, 1, 2, 3, 4, 5, 6, 7, 8] rfl rfl rfl (Nat.le_of_ble_eq_true rfl) dX3_recent_40 ⟨(Nat.le_of_ble_eq_true rfl), (Nat.le_of_ble_eq_true rfl)⟩) [0, 1, 2, 3, 4, 5, 6, 7, 8] [] [0, 1, 2, 3, 4, 5, 6, 7, 8] rfl rfl rfl (by decide) rfl (fun _ => rfl) (fun r u40 h40 => ?_)
      obtain ⟨rfl, hR40⟩ := h40
      refine g_top (y := (nI (lastD a))) (by rw [rr_0]) ?_
      rw [rr_0, rr_u0] at hR40
      have hv40 := (rr_l0 hR ht).2.2.1.last
      have hd40 := dl_len a
      refine g_put (pc := 43) (C := RX3) (T := TX3) (N := 11) (ci := 3) (v := .int (nI (lastD a))) (ws' := [(m, .inr (3, [.ref (am 0), .ref (am 1), .ref (am 2), .ref (am 3), .ref (am 4), .ref (am 5), .ref (am 6), .ref (am 7), .int rd, .int wr, .int (nI (lastD a))])), (am 0, .inl (K.2.1, 2, .inl po)), (am 1, .inl (K.2.1, 2, .inl ca)), (am 2, .inl (K.2.1, 2, .inl go)), (am 3, .inl (K.2.1, 8, .inl u40)), (am 4, .inl (K.2.1, 160, .inl pg)), (am 5, .inl (K.2.2.1, 128, .inl mk)), (am 6, .inl (K.2.2.1, 128, .inl we)), (am 7, .inl (K.2.1, 6, .inl co))]) hX inX3_recent_X3 tyX3 tyX3_ok nmX3 0 rfl rfl 10 (by decide) flX3_recent_65 rfl rfl rfl rfl (Nat.le_of_ble_eq_true rfl) rfl dX3_recent_43 ?_
      refine g_aload_n (pc := 46) hX dX3_recent_46 rfl 1 rfl ?_
      refine g_iload_n (pc := 47) hX dX3_recent_47 rfl 0 rfl ?_
      refine g_iload_n (pc := 48) hX dX3_recent_48 rfl 3 rfl ?_
      refine g_cv (pc := 49) hX (wc := [(m, .inr (3, [.ref (am 0), .ref (am 1), .ref (am 2), .ref (am 3), .ref (am 4), .ref (am 5), .ref (am 6), .ref (am 7), .int rd, .int wr, .int (nI (lastD a))])), (am 0, .inl (K.2.1, 2, .inl po)), (am 1, .inl (K.2.1, 2, .inl ca)), (am 2, .inl (K.2.1, 2, .inl go)), (am 3, .inl (K.2.1, 8, .inl u40)), (am 4, .inl (K.2.1, 160, .inl pg)), (am 5, .inl (K.2.2.1, 128, .inl mk)), (am 6, .inl (K.2.2.1, 128, .inl we)), (am 7, .inl (K.2.1, 6, .inl co))]) (wr := []) (Wd' := fun u49 => [(m, .inr (3, [.ref (am 0), .ref (am 1), .ref (am 2), .ref (am 3), .ref (am 4), .ref (am 5), .ref (am 6), .ref (am 7), .int rd, .int wr, .int (nI (lastD a))])), (am 0, .inl (K.2.1, 2, .inl po)), (am 1, .inl (K.2.1, 2, .inl ca)), (am 2, .inl (K.2.1, 2, .inl go)), (am 3, .inl (K.2.1, 8, .inl u49.1)), (am 4, .inl (K.2.1, 160, .inl u49.2)), (am 5, .inl (K.2.2.1, 128, .inl mk)), (am 6, .inl (K.2.2.1, 128, .inl we)), (am 7, .inl (K.2.1, 6, .inl co))]) (g_goV (pc := 49) hX (As := [.int (nI (4 * t)), .int (nI x)]) (stk := []) (wc := [(m, .inr (3, [.ref (am 0), .ref (am 1), .ref (am 2), .ref (am 3), .ref (am 4), .ref (am 5), .ref (am 6), .ref (am 7), .int rd, .int wr, .int (nI (lastD a))])), (am 0, .inl (K.2.1, 2, .inl po)), (am 1, .inl (K.2.1, 2, .inl ca)), (am 2, .inl (K.2.1, 2, .inl go)), (am 3, .inl (K.2.1, 8, .inl u40)), (am 4, .inl (K.2.1, 160, .inl pg)), (am 5, .inl (K.2.2.1, 128, .inl mk)), (am 6, .inl (K.2.2.1, 128, .inl we)), (am 7, .inl (K.2.1, 6, .inl co))]) (c_X3_toHead l K m am po ca go u40 pg mk we co rd wr (nI (lastD a)) (rr t a.dropLast b d e RO) hR40 (4 * t) (by omega) x hx (by rw [rr_0]; show a.dropLast.length + 1 ≤ 20; omega)) rfl rfl rfl gX3_recent_X3_toHead nX3_toHeadV rfl 0 rfl ⟨(Nat.le_of_ble_eq_true rfl), (Nat.le_of_ble_eq_true rfl)⟩ [0, 1, 2, 3, 4, 5, 6, 7, 8] rfl rfl rfl (Nat.le_of_ble_eq_true rfl) dX3_recent_49 ⟨(Nat.le_of_ble_eq_true rfl), (Nat.le_of_ble_eq_true rfl)⟩) [0, 1, 2, 3, 4, 5, 6, 7, 8] [] [0, 1, 2, 3, 4, 5, 6, 7, 8] rfl rfl rfl (by decide) rfl (fun _ => rfl) (fun u49 h49 => ?_)
      have hR49 := h49
      rw [rr_0, rr_u0] at hR49
      refine g_iconst (pc := 52) (v := (nI 0)) hX dX3_recent_52 (by decide) ?_
      refine g_top (y := bI false) (by decide) ?_
      rw [show sRecent c a x = (some (lastD a), x :: a.dropLast) from by unfold sRecent; rw [if_neg hm, if_pos c34, gl_last (by omega)]] at hs
      cases hs
      exact hret (v := false) (u := (u49.1, u49.2, (nI (lastD a)))) dX3_recent_53 (⟨by rw [bI_nomem hm]; rfl, hR49, rfl⟩) rfl
  · have hm : x ∈ a := of_decide_eq_true c10
    have hml := rm_len hm
    refine g_aload_n (pc := 13) hX dX3_recent_13 rfl 1 rfl ?_
    refine g_iload_n (pc := 14) hX dX3_recent_14 rfl 0 rfl ?_
    refine g_iload_n (pc := 15) hX dX3_recent_15 rfl 0 rfl ?_
    refine g_iload_n (pc := 16) hX dX3_recent_16 rfl 3 rfl ?_
    refine g_cv (pc := 17) hX (wc := [(m, .inr (3, [.ref (am 0), .ref (am 1), .ref (am 2), .ref (am 3), .ref (am 4), .ref (am 5), .ref (am 6), .ref (am 7), .int rd, .int wr, .int (-1)])), (am 0, .inl (K.2.1, 2, .inl po)), (am 1, .inl (K.2.1, 2, .inl ca)), (am 2, .inl (K.2.1, 2, .inl go)), (am 3, .inl (K.2.1, 8, .inl le)), (am 4, .inl (K.2.1, 160, .inl pg)), (am 5, .inl (K.2.2.1, 128, .inl mk)), (am 6, .inl (K.2.2.1, 128, .inl we)), (am 7, .inl (K.2.1, 6, .inl co))]) (wr := []) (Wd' := fun u17 => [(m, .inr (3, [.ref (am 0), .ref (am 1), .ref (am 2), .ref (am 3), .ref (am 4), .ref (am 5), .ref (am 6), .ref (am 7), .int rd, .int wr, .int (-1)])), (am 0, .inl (K.2.1, 2, .inl po)), (am 1, .inl (K.2.1, 2, .inl ca)), (am 2, .inl (K.2.1, 2, .inl go)), (am 3, .inl (K.2.1, 8, .inl u17.1)), (am 4, .inl (K.2.1, 160, .inl u17.2)), (am 5, .inl (K.2.2.1, 128, .inl mk)), (am 6, .inl (K.2.2.1, 128, .inl we)), (am 7, .inl (K.2.1, 6, .inl co))]) (g_goV (pc := 17) hX (As := [.int (nI (4 * t)), .int (nI (4 * t)), .int (nI x)]) (stk := []) (wc := [(m, .inr (3, [.ref (am 0), .ref (am 1), .ref (am 2), .ref (am 3), .ref (am 4), .ref (am 5), .ref (am 6), .ref (am 7), .int rd, .int wr, .int (-1)])), (am 0, .inl (K.2.1, 2, .inl po)), (am 1, .inl (K.2.1, 2, .inl ca)), (am 2, .inl (K.2.1, 2, .inl go)), (am 3, .inl (K.2.1, 8, .inl le)), (am 4, .inl (K.2.1, 160, .inl pg)), (am 5, .inl (K.2.2.1, 128, .inl mk)), (am 6, .inl (K.2.2.1, 128, .inl we)), (am 7, .inl (K.2.1, 6, .inl co))]) (c_X3_move l K m am po ca go le pg mk we co rd wr (-1) (rr t a b d e RO) hR (4 * t) (4 * t) (by omega) (by omega) x hx (by rw [rr_0]; exact hm) (by rw [rr_0, rr_u0, rr_0]; show (rm a x).length + 1 ≤ 20; omega)) rfl rfl rfl gX3_recent_X3_move nX3_moveV rfl 0 rfl ⟨(Nat.le_of_ble_eq_true rfl), (Nat.le_of_ble_eq_true rfl)⟩ [0, 1, 2, 3, 4, 5, 6, 7, 8] rfl rfl rfl (Nat.le_of_ble_eq_true rfl) dX3_recent_17 ⟨(Nat.le_of_ble_eq_true rfl), (Nat.le_of_ble_eq_true rfl)⟩) [0, 1, 2, 3, 4, 5, 6, 7, 8] [] [0, 1, 2, 3, 4, 5, 6, 7, 8] rfl rfl rfl (by decide) rfl (fun _ => rfl) (fun u17 h17 => ?_)
    have hR17 := h17
    rw [rr_0, rr_u0, rr_0, rr_u0] at hR17
    refine g_iconst (pc := 20) (v := (nI 1)) hX dX3_recent_20 (by decide) ?_
    refine g_top (y := bI true) (by decide) ?_
    rw [show sRecent c a x = (none, x :: rm a x) from if_pos hm] at hs
    cases hs
    exact hret (v := true) (u := (u17.1, u17.2, (-1))) dX3_recent_21 (⟨by rw [bI_mem hm]; rfl, hR17, rfl⟩) rfl
abbrev rmX3_clock : Room := { frames := 2, cells := 0, slots := 0, locals := 47 }
theorem flX3_clock_19 : Cond.fieldLink RX3 19 "TwoTierCacheModel" "lengths" "[I" ∈ wsX3_clock := by decide +kernel
theorem inX3_clock_X3 : ∀ w ∈ u_ws RX3 TX3 11, w ∈ wsX3_clock := by decide +kernel
theorem flX3_clock_13 : Cond.fieldLink RX3 13 "TwoTierCacheModel" "capacities" "[I" ∈ wsX3_clock := by decide +kernel
theorem nX3_toTailV : yX3_toTail.cls = RX3 ∧ yX3_toTail.cls ≠ "java/lang/invoke/MethodHandle" ∧ yX3_toTail.cls ≠ "java/lang/invoke/VarHandle" ∧ (parseMethodDescriptor yX3_toTail.desc).map (fun d => d.parameters.length) = some 2 := by decide +kernel
theorem flX3_clock_25 : Cond.fieldLink RX3 25 "TwoTierCacheModel" "marks" "[Z" ∈ wsX3_clock := by decide +kernel
theorem flX3_clock_22 : Cond.fieldLink RX3 22 "TwoTierCacheModel" "pages" "[I" ∈ wsX3_clock := by decide +kernel
theorem flX3_clock_65 : Cond.fieldLink RX3 65 "TwoTierCacheModel" "victim" "I" ∈ wsX3_clock := by decide +kernel
set_option maxHeartbeats 4000000 in
set_option maxRecDepth 100000 in
/-- clock -/
theorem c_X3_clock (l : Launch) (K : gT) (m : Nat) (am : Nat → Nat) (po ca go le pg mk we co : Nat → Int32) (rd wr : Int32) (t : Nat) (ht : t < 2) (c : Nat) (a b d e : List Nat) (RO : Nat → List Nat) (hR : rowsR le pg (rr t a b d e RO)) (hca : ca t = nI c) (hc1 : 1 ≤ c) (hc2 : c ≤ 16) (ha : a.length ≤ c) (MM : Nat → Nat → Bool) (hM : zR mk MM) (x : Nat) (hx : x < 64) : Ci l yX3_clock wsX3_clock rmX3_clock K [.ref m, .int (nI t), .int (nI x)] (mW K m am po ca go le pg mk we co rd wr (-1)) (fun (r : Int32) (u : (Nat → Int32) × (Nat → Int32) × (Nat → Int32) × Int32) => r = bI (decide (x ∈ a)) ∧ rowsR u.1 u.2.1 (rr t (sClock c a (MM t) x).2.1 b d e RO) ∧ zR u.2.2.1 (va_up MM t (sClock c a (MM t) x).2.2) ∧ u.2.2.2 = pI (sClock c a (MM t) x).1) (fun u => mW K m am po ca go u.1 u.2.1 u.2.2.1 we co rd wr u.2.2.2) 0 0 := by
  refine m_z (cc := cX3_clock) (own := RX3) (maxL := 5) (lv0 := [(0, .ref m), (1, .int (nI t)), (2, .int (nI x))]) (by decide) rfl rfl (Nat.le_of_ble_eq_true rfl) rfl ?_
  intro X hX hin hret
  refine g_ws (ws' := [(m, .inr (3, [.ref (am 0), .ref (am 1), .ref (am 2), .ref (am 3), .ref (am 4), .ref (am 5), .ref (am 6), .ref (am 7), .int rd, .int wr, .int (-1)])), (am 0, .inl (K.2.1, 2, .inl po)), (am 1, .inl (K.2.1, 2, .inl ca)), (am 2, .inl (K.2.1, 2, .inl go)), (am 3, .inl (K.2.1, 8, .inl le)), (am 4, .inl (K.2.1, 160, .inl pg)), (am 5, .inl (K.2.2.1, 128, .inl mk)), (am 6, .inl (K.2.2.1, 128, .inl we)), (am 7, .inl (K.2.1, 6, .inl co))]) rfl ?_
  have la := (rr_l0 hR ht).2.1
  have lb := (rr_l1 hR ht).2.1
  have ld := (rr_l2 hR ht).2.1
  have lle := (rr_l3 hR ht).2.1
  generalize hs : sClock c a (MM t) x = rs at hret
  obtain ⟨o, a2, M3⟩ := rs
  refine g_iconst (pc := 0) (v := (nI 4)) hX dX3_clock_0 (by decide) ?_
  refine g_iload_n (pc := 1) hX dX3_clock_1 rfl 1 rfl ?_
  refine g_imulN (pc := 2) (r := 4 * t) hX dX3_clock_2 (by first | rfl | omega) ?_
  refine g_istore_n (pc := 3) (lv' := [(3, .int (nI (4 * t))), (0, .ref m), (1, .int (nI t)), (2, .int (nI x))]) hX dX3_clock_3 rfl (by decide) rfl ?_
  refine g_aload_n (pc := 4) hX dX3_clock_4 rfl 1 rfl ?_
  refine g_iload_n (pc := 5) hX dX3_clock_5 rfl 0 rfl ?_
  refine g_iload_n (pc := 6) hX dX3_clock_6 rfl 3 rfl ?_
  refine g_ci (pc := 7) hX (wc := [(m, .inr (3, [.ref (am 0), .ref (am 1), .ref (am 2), .ref (am 3), .ref (am 4), .ref (am 5), .ref (am 6), .ref (am 7), .int rd, .int wr, .int (-1)])), (am 0, .inl (K.2.1, 2, .inl po)), (am 1, .inl (K.2.1, 2, .inl ca)), (am 2, .inl (K.2.1, 2, .inl go)), (am 3, .inl (K.2.1, 8, .inl le)), (am 4, .inl (K.2.1, 160, .inl pg)), (am 5, .inl (K.2.2.1, 128, .inl mk)), (am 6, .inl (K.2.2.1, 128, .inl we)), (am 7, .inl (K.2.1, 6, .inl co))]) (wr := []) (Wd' := fun u => [(m, .inr (3, [.ref (am 0), .ref (am 1), .ref (am 2), .ref (am 3), .ref (am 4), .ref (am 5), .ref (am 6), .ref (am 7), .int rd, .int wr, .int (-1)])), (am 0, .inl (K.2.1, 2, .inl po)), (am 1, .inl (K.2.1, 2, .inl ca)), (am 2, .inl (K.2.1, 2, .inl go)), (am 3, .inl (K.2.1, 8, .inl le)), (am 4, .inl (K.2.1, 160, .inl pg)), (am 5, .inl (K.2.2.1, 128, .inl mk)), (am 6, .inl (K.2.2.1, 128, .inl we)), (am 7, .inl (K.2.1, 6, .inl co))]) (g_goV (pc := 7) hX (As := [.int (nI (4 * t)), .int (nI x)]) (stk := []) (wc := [(m, .inr (3, [.ref (am 0), .ref (am 1), .ref (am 2), .ref (am 3), .ref (am 4), .ref (am 5), .ref (am 6), .ref (am 7), .int rd, .int wr, .int (-1)])), (am 0, .inl (K.2.1, 2, .inl po)), (am 1, .inl (K.2.1, 2, .inl ca)), (am 2, .inl (K.2.1, 2, .inl go)), (am 3, .inl (K.2.1, 8, .inl le)), (am 4, .inl (K.2.1, 160, .inl pg)), (am 5, .inl (K.2.2.1, 128, .inl mk)), (am 6, .inl (K.2.2.1, 128, .inl we)), (am 7, .inl (K.2.1, 6, .inl co))]) (c_X3_isIn l K m am po ca go le pg mk we co rd wr (-1) (rr t a b d e RO) hR (4 * t) (by omega) x hx) rfl rfl rfl gX3_clock_X3_isIn nX3_isInV rfl 0 rfl ⟨(Nat.le_of_ble_eq_true rfl), (Nat.le_of_ble_eq_true rfl)⟩ [0, 1, 2, 3, 4, 5, 6, 7, 8] rfl rfl rfl (Nat.le_of_ble_eq_true rfl) dX3_clock_7 ⟨(Nat.le_of_ble_eq_true rfl), (Nat.le_of_ble_eq_true rfl)⟩) [0, 1, 2, 3, 4, 5, 6, 7, 8] [] [0, 1, 2, 3, 4, 5, 6, 7, 8] rfl rfl rfl (by decide) rfl (fun _ => rfl) (fun r u h7 => ?_)
  obtain rfl := h7
  refine g_top (y := (bI (decide (x ∈ a)))) (by rw [rr_0]) ?_
  refine g_ifB_eq (pc := 10) (tgt := 27) hX dX3_clock_10 (by decide) (fun c10 => ?_) (fun c10 => ?_)
  · have hm : x ∉ a := of_decide_eq_false c10
    refine g_aload_n (pc := 27) hX dX3_clock_27 rfl 1 rfl ?_
    refine g_get (pc := 28) (C := RX3) (T := TX3) (N := 11) (ci := 3) (v := .ref (am 3)) hX inX3_clock_X3 0 rfl rfl 3 (by decide) flX3_clock_19 rfl rfl dX3_clock_28 ?_
    refine g_iload_n (pc := 31) hX dX3_clock_31 rfl 0 rfl ?_
    refine g_iald (pc := 32) (v := (nI a.length)) hX 4 rfl (by omega) (by omega) (rr_l0 hR ht).1 dX3_clock_32 ?_
    refine g_aload_n (pc := 33) hX dX3_clock_33 rfl 1 rfl ?_
    refine g_get (pc := 34) (C := RX3) (T := TX3) (N := 11) (ci := 3) (v := .ref (am 1)) hX inX3_clock_X3 0 rfl rfl 1 (by decide) flX3_clock_13 rfl rfl dX3_clock_34 ?_
    refine g_iload_n (pc := 37) hX dX3_clock_37 rfl 2 rfl ?_
    refine g_iald (pc := 38) (v := (nI c)) hX 2 rfl (by omega) (by omega) hca dX3_clock_38 ?_
    refine g_icmpN_ne (pc := 39) (tgt := 127) hX (by omega) (by omega) dX3_clock_39 (by decide) (fun c39 => ?_) (fun c39 => ?_)
    · refine g_aload_n (pc := 127) hX dX3_clock_127 rfl 1 rfl ?_
      refine g_iload_n (pc := 128) hX dX3_clock_128 rfl 0 rfl ?_
      refine g_iload_n (pc := 129) hX dX3_clock_129 rfl 3 rfl ?_
      refine g_cv (pc := 130) hX (wc := [(m, .inr (3, [.ref (am 0), .ref (am 1), .ref (am 2), .ref (am 3), .ref (am 4), .ref (am 5), .ref (am 6), .ref (am 7), .int rd, .int wr, .int (-1)])), (am 0, .inl (K.2.1, 2, .inl po)), (am 1, .inl (K.2.1, 2, .inl ca)), (am 2, .inl (K.2.1, 2, .inl go)), (am 3, .inl (K.2.1, 8, .inl le)), (am 4, .inl (K.2.1, 160, .inl pg)), (am 5, .inl (K.2.2.1, 128, .inl mk)), (am 6, .inl (K.2.2.1, 128, .inl we)), (am 7, .inl (K.2.1, 6, .inl co))]) (wr := []) (Wd' := fun u130 => [(m, .inr (3, [.ref (am 0), .ref (am 1), .ref (am 2), .ref (am 3), .ref (am 4), .ref (am 5), .ref (am 6), .ref (am 7), .int rd, .int wr, .int (-1)])), (am 0, .inl (K.2.1, 2, .inl po)), (am 1, .inl (K.2.1, 2, .inl ca)), (am 2, .inl (K.2.1, 2, .inl go)), (am 3, .inl (K.2.1, 8, .inl u130.1)), (am 4, .inl (K.2.1, 160, .inl u130.2)), (am 5, .inl (K.2.2.1, 128, .inl mk)), (am 6, .inl (K.2.2.1, 128, .inl we)), (am 7, .inl (K.2.1, 6, .inl co))]) (g_goV (pc := 130) hX (As := [.int (nI (4 * t)), .int (nI x)]) (stk := []) (wc := [(m, .inr (3, [.ref (am 0), .ref (am 1), .ref (am 2), .ref (am 3), .ref (am 4), .ref (am 5), .ref (am 6), .ref (am 7), .int rd, .int wr, .int (-1)])), (am 0, .inl (K.2.1, 2, .inl po)), (am 1, .inl (K.2.1, 2, .inl ca)), (am 2, .inl (K.2.1, 2, .inl go)), (am 3, .inl (K.2.1, 8, .inl le)), (am 4, .inl (K.2.1, 160, .inl pg)), (am 5, .inl (K.2.2.1, 128, .inl mk)), (am 6, .inl (K.2.2.1, 128, .inl we)), (am 7, .inl (K.2.1, 6, .inl co))]) (c_X3_toTail l K m am po ca go le pg mk we co rd wr (-1) (rr t a b d e RO) hR (4 * t) (by omega) x hx (by rw [rr_0]; omega)) rfl rfl rfl gX3_clock_X3_toTail nX3_toTailV rfl 0 rfl ⟨(Nat.le_of_ble_eq_true rfl), (Nat.le_of_ble_eq_true rfl)⟩ [0, 1, 2, 3, 4, 5, 6, 7, 8] rfl rfl rfl (Nat.le_of_ble_eq_true rfl) dX3_clock_130 ⟨(Nat.le_of_ble_eq_true rfl), (Nat.le_of_ble_eq_true rfl)⟩) [0, 1, 2, 3, 4, 5, 6, 7, 8] [] [0, 1, 2, 3, 4, 5, 6, 7, 8] rfl rfl rfl (by decide) rfl (fun _ => rfl) (fun u130 h130 => ?_)
      have hR130 := h130
      rw [rr_0, rr_u0] at hR130
      refine g_iconst (pc := 133) (v := (nI 0)) hX dX3_clock_133 (by decide) ?_
      refine g_top (y := bI false) (by decide) ?_
      rw [show sClock c a (MM t) x = (none, a ++ [x], MM t) from by unfold sClock; rw [if_neg hm, if_neg c39]] at hs
      cases hs
      exact hret (v := false) (u := (u130.1, u130.2, mk, (-1))) dX3_clock_134 (⟨by rw [bI_nomem hm]; rfl, hR130, by rw [va_up_id]; exact hM, rfl⟩) rfl
    · have loop : ∀ (z k : Nat) (mm : List Nat) (M2 : Nat → Bool) (le2 pg2 mk2 : Nat → Int32), k < z → mm.length = a.length → rowsR le2 pg2 (rr t mm b d e RO) → zR mk2 (va_up MM t M2) → sSpin k mm M2 = sSpin a.length a (MM t) → (∀ i, k ≤ i → i < mm.length → M2 (mm.getD i 0) = false) → VG X l rmX3_clock K 5 0 0 [(m, .inr (3, [.ref (am 0), .ref (am 1), .ref (am 2), .ref (am 3), .ref (am 4), .ref (am 5), .ref (am 6), .ref (am 7), .int rd, .int wr, .int (-1)])), (am 0, .inl (K.2.1, 2, .inl po)), (am 1, .inl (K.2.1, 2, .inl ca)), (am 2, .inl (K.2.1, 2, .inl go)), (am 3, .inl (K.2.1, 8, .inl le2)), (am 4, .inl (K.2.1, 160, .inl pg2)), (am 5, .inl (K.2.2.1, 128, .inl mk2)), (am 6, .inl (K.2.2.1, 128, .inl we)), (am 7, .inl (K.2.1, 6, .inl co))] [(3, .int (nI (4 * t))), (0, .ref m), (1, .int (nI t)), (2, .int (nI x))] [] 42 := by
        intro z
        induction z with
        | zero => intro k mm M2 le2 pg2 mk2 h1; exact absurd h1 (Nat.not_lt_zero _)
        | succ z ih =>
          intro k mm M2 le2 pg2 mk2 h1 h3 h4 h5 h6 h7
          obtain ⟨v, q2, rfl⟩ := cons_of (l := mm) (by omega)
          have hv : v < 64 := (rr_l0 h4 ht).2.2.1 v List.mem_cons_self
          have h3 : q2.length + 1 = a.length := h3
          refine g_aload_n (pc := 42) hX dX3_clock_42 rfl 1 rfl ?_
          refine g_get (pc := 43) (C := RX3) (T := TX3) (N := 11) (ci := 3) (v := .ref (am 5)) hX inX3_clock_X3 0 rfl rfl 5 (by decide) flX3_clock_25 rfl rfl dX3_clock_43 ?_
          refine g_bipush (pc := 46) (v := (nI 64)) hX dX3_clock_46 (by decide) ?_
          refine g_iload_n (pc := 48) hX dX3_clock_48 rfl 2 rfl ?_
          refine g_imulN (pc := 49) (r := 64 * t) hX dX3_clock_49 (by first | rfl | omega) ?_
          refine g_aload_n (pc := 50) hX dX3_clock_50 rfl 1 rfl ?_
          refine g_get (pc := 51) (C := RX3) (T := TX3) (N := 11) (ci := 3) (v := .ref (am 4)) hX inX3_clock_X3 0 rfl rfl 4 (by decide) flX3_clock_22 rfl rfl dX3_clock_51 ?_
          refine g_bipush (pc := 54) (v := (nI 20)) hX dX3_clock_54 (by decide) ?_
          refine g_iload_n (pc := 56) hX dX3_clock_56 rfl 0 rfl ?_
          refine g_imulN (pc := 57) (r := 20 * (4 * t)) hX dX3_clock_57 (by first | rfl | omega) ?_
          refine g_iald (pc := 58) (v := (nI v)) hX 5 rfl (by omega) (by omega) ((rr_l0 h4 ht).2.2.2 0 (Nat.succ_pos _)) dX3_clock_58 ?_
          refine g_iaddN (pc := 59) (r := (64 * t) + v) hX dX3_clock_59 (by first | rfl | omega) ?_
          refine g_zald (pc := 60) (v := (bI (M2 v))) hX 6 rfl (by omega) (by omega) ((h5.at ht hv).trans (by rw [va_up_self])) dX3_clock_60 ?_
          refine g_ifB_eq (pc := 61) (tgt := 105) hX dX3_clock_61 (by decide) (fun c61 => ?_) (fun c61 => ?_)
          · have hq : sSpin a.length a (MM t) = (v :: q2, M2) := by
              rw [← h6]
              cases k with
              | zero => rfl
              | succ k => exact if_neg (by rw [c61]; decide)
            refine g_aload_n (pc := 105) hX dX3_clock_105 rfl 1 rfl ?_
            refine g_aload_n (pc := 106) hX dX3_clock_106 rfl 1 rfl ?_
            refine g_get (pc := 107) (C := RX3) (T := TX3) (N := 11) (ci := 3) (v := .ref (am 4)) hX inX3_clock_X3 0 rfl rfl 4 (by decide) flX3_clock_22 rfl rfl dX3_clock_107 ?_
            refine g_bipush (pc := 110) (v := (nI 20)) hX dX3_clock_110 (by decide) ?_
            refine g_iload_n (pc := 112) hX dX3_clock_112 rfl 0 rfl ?_
            refine g_imulN (pc := 113) (r := 20 * (4 * t)) hX dX3_clock_113 (by first | rfl | omega) ?_
            refine g_iald (pc := 114) (v := (nI v)) hX 5 rfl (by omega) (by omega) ((rr_l0 h4 ht).2.2.2 0 (Nat.succ_pos _)) dX3_clock_114 ?_
            refine g_put (pc := 115) (C := RX3) (T := TX3) (N := 11) (ci := 3) (v := .int (nI v)) (ws' := [(m, .inr (3, [.ref (am 0), .ref (am 1), .ref (am 2), .ref (am 3), .ref (am 4), .ref (am 5), .ref (am 6), .ref (am 7), .int rd, .int wr, .int (nI v)])), (am 0, .inl (K.2.1, 2, .inl po)), (am 1, .inl (K.2.1, 2, .inl ca)), (am 2, .inl (K.2.1, 2, .inl go)), (am 3, .inl (K.2.1, 8, .inl le2)), (am 4, .inl (K.2.1, 160, .inl pg2)), (am 5, .inl (K.2.2.1, 128, .inl mk2)), (am 6, .inl (K.2.2.1, 128, .inl we)), (am 7, .inl (K.2.1, 6, .inl co))]) hX inX3_clock_X3 tyX3 tyX3_ok nmX3 0 rfl rfl 10 (by decide) flX3_clock_65 rfl rfl rfl rfl (Nat.le_of_ble_eq_true rfl) rfl dX3_clock_115 ?_
            refine g_aload_n (pc := 118) hX dX3_clock_118 rfl 1 rfl ?_
            refine g_iload_n (pc := 119) hX dX3_clock_119 rfl 0 rfl ?_
            refine g_aload_n (pc := 120) hX dX3_clock_120 rfl 1 rfl ?_
            refine g_get (pc := 121) (C := RX3) (T := TX3) (N := 11) (ci := 3) (v := .int (nI v)) hX inX3_clock_X3 0 rfl rfl 10 (by decide) flX3_clock_65 rfl rfl dX3_clock_121 ?_
            refine g_cv (pc := 124) hX (wc := [(m, .inr (3, [.ref (am 0), .ref (am 1), .ref (am 2), .ref (am 3), .ref (am 4), .ref (am 5), .ref (am 6), .ref (am 7), .int rd, .int wr, .int (nI v)])), (am 0, .inl (K.2.1, 2, .inl po)), (am 1, .inl (K.2.1, 2, .inl ca)), (am 2, .inl (K.2.1, 2, .inl go)), (am 3, .inl (K.2.1, 8, .inl le2)), (am 4, .inl (K.2.1, 160, .inl pg2)), (am 5, .inl (K.2.2.1, 128, .inl mk2)), (am 6, .inl (K.2.2.1, 128, .inl we)), (am 7, .inl (K.2.1, 6, .inl co))]) (wr := []) (Wd' := fun u124 => [(m, .inr (3, [.ref (am 0), .ref (am 1), .ref (am 2), .ref (am 3), .ref (am 4), .ref (am 5), .ref (am 6), .ref (am 7), .int rd, .int wr, .int (nI v)])), (am 0, .inl (K.2.1, 2, .inl po)), (am 1, .inl (K.2.1, 2, .inl ca)), (am 2, .inl (K.2.1, 2, .inl go)), (am 3, .inl (K.2.1, 8, .inl u124.1)), (am 4, .inl (K.2.1, 160, .inl u124.2)), (am 5, .inl (K.2.2.1, 128, .inl mk2)), (am 6, .inl (K.2.2.1, 128, .inl we)), (am 7, .inl (K.2.1, 6, .inl co))]) (g_goV (pc := 124) hX (As := [.int (nI (4 * t)), .int (nI v)]) (stk := []) (wc := [(m, .inr (3, [.ref (am 0), .ref (am 1), .ref (am 2), .ref (am 3), .ref (am 4), .ref (am 5), .ref (am 6), .ref (am 7), .int rd, .int wr, .int (nI v)])), (am 0, .inl (K.2.1, 2, .inl po)), (am 1, .inl (K.2.1, 2, .inl ca)), (am 2, .inl (K.2.1, 2, .inl go)), (am 3, .inl (K.2.1, 8, .inl le2)), (am 4, .inl (K.2.1, 160, .inl pg2)), (am 5, .inl (K.2.2.1, 128, .inl mk2)), (am 6, .inl (K.2.2.1, 128, .inl we)), (am 7, .inl (K.2.1, 6, .inl co))]) (c_X3_takeOut l K m am po ca go le2 pg2 mk2 we co rd wr (nI v) (rr t (v :: q2) b d e RO) h4 (4 * t) (by omega) v hv (by rw [rr_0]; exact List.mem_cons_self)) rfl rfl rfl gX3_clock_X3_takeOut nX3_takeOutV rfl 0 rfl ⟨(Nat.le_of_ble_eq_true rfl), (Nat.le_of_ble_eq_true rfl)⟩ [0, 1, 2, 3, 4, 5, 6, 7, 8] rfl rfl rfl (Nat.le_of_ble_eq_true rfl) dX3_clock_124 ⟨(Nat.le_of_ble_eq_true rfl), (Nat.le_of_ble_eq_true rfl)⟩) [0, 1, 2, 3, 4, 5, 6, 7, 8] [] [0, 1, 2, 3, 4, 5, 6, 7, 8] rfl rfl rfl (by decide) rfl (fun _ => rfl) (fun u124 h124 => ?_)
            have hR124 := h124
            rw [rr_0, rr_u0] at hR124
            have hR124b := hR124
            rw [rm_head] at hR124b
            refine g_aload_n (pc := 127) hX dX3_clock_127 rfl 1 rfl ?_
            refine g_iload_n (pc := 128) hX dX3_clock_128 rfl 0 rfl ?_
            refine g_iload_n (pc := 129) hX dX3_clock_129 rfl 3 rfl ?_
            refine g_cv (pc := 130) hX (wc := [(m, .inr (3, [.ref (am 0), .ref (am 1), .ref (am 2), .ref (am 3), .ref (am 4), .ref (am 5), .ref (am 6), .ref (am 7), .int rd, .int wr, .int (nI v)])), (am 0, .inl (K.2.1, 2, .inl po)), (am 1, .inl (K.2.1, 2, .inl ca)), (am 2, .inl (K.2.1, 2, .inl go)), (am 3, .inl (K.2.1, 8, .inl u124.1)), (am 4, .inl (K.2.1, 160, .inl u124.2)), (am 5, .inl (K.2.2.1, 128, .inl mk2)), (am 6, .inl (K.2.2.1, 128, .inl we)), (am 7, .inl (K.2.1, 6, .inl co))]) (wr := []) (Wd' := fun u130 => [(m, .inr (3, [.ref (am 0), .ref (am 1), .ref (am 2), .ref (am 3), .ref (am 4), .ref (am 5), .ref (am 6), .ref (am 7), .int rd, .int wr, .int (nI v)])), (am 0, .inl (K.2.1, 2, .inl po)), (am 1, .inl (K.2.1, 2, .inl ca)), (am 2, .inl (K.2.1, 2, .inl go)), (am 3, .inl (K.2.1, 8, .inl u130.1)), (am 4, .inl (K.2.1, 160, .inl u130.2)), (am 5, .inl (K.2.2.1, 128, .inl mk2)), (am 6, .inl (K.2.2.1, 128, .inl we)), (am 7, .inl (K.2.1, 6, .inl co))]) (g_goV (pc := 130) hX (As := [.int (nI (4 * t)), .int (nI x)]) (stk := []) (wc := [(m, .inr (3, [.ref (am 0), .ref (am 1), .ref (am 2), .ref (am 3), .ref (am 4), .ref (am 5), .ref (am 6), .ref (am 7), .int rd, .int wr, .int (nI v)])), (am 0, .inl (K.2.1, 2, .inl po)), (am 1, .inl (K.2.1, 2, .inl ca)), (am 2, .inl (K.2.1, 2, .inl go)), (am 3, .inl (K.2.1, 8, .inl u124.1)), (am 4, .inl (K.2.1, 160, .inl u124.2)), (am 5, .inl (K.2.2.1, 128, .inl mk2)), (am 6, .inl (K.2.2.1, 128, .inl we)), (am 7, .inl (K.2.1, 6, .inl co))]) (c_X3_toTail l K m am po ca go u124.1 u124.2 mk2 we co rd wr (nI v) (rr t q2 b d e RO) hR124b (4 * t) (by omega) x hx (by rw [rr_0]; omega)) rfl rfl rfl gX3_clock_X3_toTail nX3_toTailV rfl 0 rfl ⟨(Nat.le_of_ble_eq_true rfl), (Nat.le_of_ble_eq_true rfl)⟩ [0, 1, 2, 3, 4, 5, 6, 7, 8] rfl rfl rfl (Nat.le_of_ble_eq_true rfl) dX3_clock_130 ⟨(Nat.le_of_ble_eq_true rfl), (Nat.le_of_ble_eq_true rfl)⟩) [0, 1, 2, 3, 4, 5, 6, 7, 8] [] [0, 1, 2, 3, 4, 5, 6, 7, 8] rfl rfl rfl (by decide) rfl (fun _ => rfl) (fun u130 h130 => ?_)
            have hR130 := h130
            rw [rr_0, rr_u0] at hR130
            refine g_iconst (pc := 133) (v := (nI 0)) hX dX3_clock_133 (by decide) ?_
            refine g_top (y := bI false) (by decide) ?_
            rw [show sClock c a (MM t) x = (some v, q2 ++ [x], M2) from by unfold sClock; rw [if_neg hm, if_pos c39, hq]; rfl] at hs
            cases hs
            exact hret (v := false) (u := (u130.1, u130.2, mk2, (nI v))) dX3_clock_134 (⟨by rw [bI_nomem hm]; rfl, hR130, h5, rfl⟩) rfl
          · obtain ⟨k2, rfl⟩ : ∃ k2, k = k2 + 1 := by
              cases k with
              | zero => exact absurd (h7 0 (Nat.le_refl _) (Nat.succ_pos _)) (by show ¬ (M2 v = false); rw [c61]; decide)
              | succ k2 => exact ⟨k2, rfl⟩
            refine g_aload_n (pc := 64) hX dX3_clock_64 rfl 1 rfl ?_
            refine g_get (pc := 65) (C := RX3) (T := TX3) (N := 11) (ci := 3) (v := .ref (am 4)) hX inX3_clock_X3 0 rfl rfl 4 (by decide) flX3_clock_22 rfl rfl dX3_clock_65 ?_
            refine g_bipush (pc := 68) (v := (nI 20)) hX dX3_clock_68 (by decide) ?_
            refine g_iload_n (pc := 70) hX dX3_clock_70 rfl 0 rfl ?_
            refine g_imulN (pc := 71) (r := 20 * (4 * t)) hX dX3_clock_71 (by first | rfl | omega) ?_
            refine g_iald (pc := 72) (v := (nI v)) hX 5 rfl (by omega) (by omega) ((rr_l0 h4 ht).2.2.2 0 (Nat.succ_pos _)) dX3_clock_72 ?_
            refine g_istore (pc := 73) (lv' := [(4, .int (nI v)), (3, .int (nI (4 * t))), (0, .ref m), (1, .int (nI t)), (2, .int (nI x))]) hX dX3_clock_73 (by decide) rfl ?_
            refine g_aload_n (pc := 75) hX dX3_clock_75 rfl 2 rfl ?_
            refine g_get (pc := 76) (C := RX3) (T := TX3) (N := 11) (ci := 3) (v := .ref (am 5)) hX inX3_clock_X3 0 rfl rfl 5 (by decide) flX3_clock_25 rfl rfl dX3_clock_76 ?_
            refine g_bipush (pc := 79) (v := (nI 64)) hX dX3_clock_79 (by decide) ?_
            refine g_iload_n (pc := 81) hX dX3_clock_81 rfl 3 rfl ?_
            refine g_imulN (pc := 82) (r := 64 * t) hX dX3_clock_82 (by first | rfl | omega) ?_
            refine g_iload (pc := 83) hX dX3_clock_83 0 rfl ?_
            refine g_iaddN (pc := 85) (r := (64 * t) + v) hX dX3_clock_85 (by first | rfl | omega) ?_
            refine g_iconst (pc := 86) (v := (nI 0)) hX dX3_clock_86 (by decide) ?_
            refine g_zast (pc := 87) (ws' := [(m, .inr (3, [.ref (am 0), .ref (am 1), .ref (am 2), .ref (am 3), .ref (am 4), .ref (am 5), .ref (am 6), .ref (am 7), .int rd, .int wr, .int (-1)])), (am 0, .inl (K.2.1, 2, .inl po)), (am 1, .inl (K.2.1, 2, .inl ca)), (am 2, .inl (K.2.1, 2, .inl go)), (am 3, .inl (K.2.1, 8, .inl le2)), (am 4, .inl (K.2.1, 160, .inl pg2)), (am 5, .inl (K.2.2.1, 128, .inl (upd mk2 ((64 * t) + v) (nI 0)))), (am 6, .inl (K.2.2.1, 128, .inl we)), (am 7, .inl (K.2.1, 6, .inl co))]) hX 6 rfl (by omega) (by omega) (by decide) rfl dX3_clock_87 ?_
            refine g_aload_n (pc := 88) hX dX3_clock_88 rfl 2 rfl ?_
            refine g_iload_n (pc := 89) hX dX3_clock_89 rfl 1 rfl ?_
            refine g_iload (pc := 90) hX dX3_clock_90 0 rfl ?_
            refine g_cv (pc := 92) hX (wc := [(m, .inr (3, [.ref (am 0), .ref (am 1), .ref (am 2), .ref (am 3), .ref (am 4), .ref (am 5), .ref (am 6), .ref (am 7), .int rd, .int wr, .int (-1)])), (am 0, .inl (K.2.1, 2, .inl po)), (am 1, .inl (K.2.1, 2, .inl ca)), (am 2, .inl (K.2.1, 2, .inl go)), (am 3, .inl (K.2.1, 8, .inl le2)), (am 4, .inl (K.2.1, 160, .inl pg2)), (am 5, .inl (K.2.2.1, 128, .inl (upd mk2 ((64 * t) + v) (nI 0)))), (am 6, .inl (K.2.2.1, 128, .inl we)), (am 7, .inl (K.2.1, 6, .inl co))]) (wr := []) (Wd' := fun u92 => [(m, .inr (3, [.ref (am 0), .ref (am 1), .ref (am 2), .ref (am 3), .ref (am 4), .ref (am 5), .ref (am 6), .ref (am 7), .int rd, .int wr, .int (-1)])), (am 0, .inl (K.2.1, 2, .inl po)), (am 1, .inl (K.2.1, 2, .inl ca)), (am 2, .inl (K.2.1, 2, .inl go)), (am 3, .inl (K.2.1, 8, .inl u92.1)), (am 4, .inl (K.2.1, 160, .inl u92.2)), (am 5, .inl (K.2.2.1, 128, .inl (upd mk2 ((64 * t) + v) (nI 0)))), (am 6, .inl (K.2.2.1, 128, .inl we)), (am 7, .inl (K.2.1, 6, .inl co))]) (g_goV (pc := 92) hX (As := [.int (nI (4 * t)), .int (nI v)]) (stk := []) (wc := [(m, .inr (3, [.ref (am 0), .ref (am 1), .ref (am 2), .ref (am 3), .ref (am 4), .ref (am 5), .ref (am 6), .ref (am 7), .int rd, .int wr, .int (-1)])), (am 0, .inl (K.2.1, 2, .inl po)), (am 1, .inl (K.2.1, 2, .inl ca)), (am 2, .inl (K.2.1, 2, .inl go)), (am 3, .inl (K.2.1, 8, .inl le2)), (am 4, .inl (K.2.1, 160, .inl pg2)), (am 5, .inl (K.2.2.1, 128, .inl (upd mk2 ((64 * t) + v) (nI 0)))), (am 6, .inl (K.2.2.1, 128, .inl we)), (am 7, .inl (K.2.1, 6, .inl co))]) (c_X3_takeOut l K m am po ca go le2 pg2 (upd mk2 ((64 * t) + v) (nI 0)) we co rd wr (-1) (rr t (v :: q2) b d e RO) h4 (4 * t) (by omega) v hv (by rw [rr_0]; exact List.mem_cons_self)) rfl rfl rfl gX3_clock_X3_takeOut nX3_takeOutV rfl 0 rfl ⟨(Nat.le_of_ble_eq_true rfl), (Nat.le_of_ble_eq_true rfl)⟩ [0, 1, 2, 3, 4, 5, 6, 7, 8] rfl rfl rfl (Nat.le_of_ble_eq_true rfl) dX3_clock_92 ⟨(Nat.le_of_ble_eq_true rfl), (Nat.le_of_ble_eq_true rfl)⟩) [0, 1, 2, 3, 4, 5, 6, 7, 8] [] [0, 1, 2, 3, 4, 5, 6, 7, 8] rfl rfl rfl (by decide) rfl (fun _ => rfl) (fun u92 h92 => ?_)
            have hR92 := h92
            rw [rr_0, rr_u0] at hR92
            have hR92b := hR92
            rw [rm_head] at hR92b
            refine g_aload_n (pc := 95) hX dX3_clock_95 rfl 2 rfl ?_
            refine g_iload_n (pc := 96) hX dX3_clock_96 rfl 1 rfl ?_
            refine g_iload (pc := 97) hX dX3_clock_97 0 rfl ?_
            refine g_cv (pc := 99) hX (wc := [(m, .inr (3, [.ref (am 0), .ref (am 1), .ref (am 2), .ref (am 3), .ref (am 4), .ref (am 5), .ref (am 6), .ref (am 7), .int rd, .int wr, .int (-1)])), (am 0, .inl (K.2.1, 2, .inl po)), (am 1, .inl (K.2.1, 2, .inl ca)), (am 2, .inl (K.2.1, 2, .inl go)), (am 3, .inl (K.2.1, 8, .inl u92.1)), (am 4, .inl (K.2.1, 160, .inl u92.2)), (am 5, .inl (K.2.2.1, 128, .inl (upd mk2 ((64 * t) + v) (nI 0)))), (am 6, .inl (K.2.2.1, 128, .inl we)), (am 7, .inl (K.2.1, 6, .inl co))]) (wr := []) (Wd' := fun u99 => [(m, .inr (3, [.ref (am 0), .ref (am 1), .ref (am 2), .ref (am 3), .ref (am 4), .ref (am 5), .ref (am 6), .ref (am 7), .int rd, .int wr, .int (-1)])), (am 0, .inl (K.2.1, 2, .inl po)), (am 1, .inl (K.2.1, 2, .inl ca)), (am 2, .inl (K.2.1, 2, .inl go)), (am 3, .inl (K.2.1, 8, .inl u99.1)), (am 4, .inl (K.2.1, 160, .inl u99.2)), (am 5, .inl (K.2.2.1, 128, .inl (upd mk2 ((64 * t) + v) (nI 0)))), (am 6, .inl (K.2.2.1, 128, .inl we)), (am 7, .inl (K.2.1, 6, .inl co))]) (g_goV (pc := 99) hX (As := [.int (nI (4 * t)), .int (nI v)]) (stk := []) (wc := [(m, .inr (3, [.ref (am 0), .ref (am 1), .ref (am 2), .ref (am 3), .ref (am 4), .ref (am 5), .ref (am 6), .ref (am 7), .int rd, .int wr, .int (-1)])), (am 0, .inl (K.2.1, 2, .inl po)), (am 1, .inl (K.2.1, 2, .inl ca)), (am 2, .inl (K.2.1, 2, .inl go)), (am 3, .inl (K.2.1, 8, .inl u92.1)), (am 4, .inl (K.2.1, 160, .inl u92.2)), (am 5, .inl (K.2.2.1, 128, .inl (upd mk2 ((64 * t) + v) (nI 0)))), (am 6, .inl (K.2.2.1, 128, .inl we)), (am 7, .inl (K.2.1, 6, .inl co))]) (c_X3_toTail l K m am po ca go u92.1 u92.2 (upd mk2 ((64 * t) + v) (nI 0)) we co rd wr (-1) (rr t q2 b d e RO) hR92b (4 * t) (by omega) v hv (by rw [rr_0]; omega)) rfl rfl rfl gX3_clock_X3_toTail nX3_toTailV rfl 0 rfl ⟨(Nat.le_of_ble_eq_true rfl), (Nat.le_of_ble_eq_true rfl)⟩ [0, 1, 2, 3, 4, 5, 6, 7, 8] rfl rfl rfl (Nat.le_of_ble_eq_true rfl) dX3_clock_99 ⟨(Nat.le_of_ble_eq_true rfl), (Nat.le_of_ble_eq_true rfl)⟩) [0, 1, 2, 3, 4, 5, 6, 7, 8] [] [0, 1, 2, 3, 4, 5, 6, 7, 8] rfl rfl rfl (by decide) rfl (fun _ => rfl) (fun u99 h99 => ?_)
            have hR99 := h99
            rw [rr_0, rr_u0] at hR99
            refine g_goto (pc := 102) (tgt := 42) hX dX3_clock_102 (by decide) ?_
            refine g_sub [1, 2, 3, 4] (lv' := [(3, .int (nI (4 * t))), (0, .ref m), (1, .int (nI t)), (2, .int (nI x))]) rfl ?_
            have hl8 : (q2 ++ [v]).length = a.length := by rw [List.length_append]; exact h3
            refine ih k2 (q2 ++ [v]) (setB M2 v false) _ _ _ (by omega) hl8 hR99 (by have k := h5.set ht hv false; rw [va_up_self, va_up_2] at k; exact k) (by rw [← h6]; exact (if_pos c61).symm) (fun i q1 q3 => ?_)
            rw [hl8] at q3
            rw [ap_get]
            unfold setB
            by_cases e1 : i < q2.length
            · rw [if_pos e1]
              by_cases e2 : q2.getD i 0 = v
              · rw [if_pos e2]
              · rw [if_neg e2]
                have k := h7 (i + 1) (by omega) (by show i + 1 < q2.length + 1; omega)
                rw [gd_cons, if_neg (by omega), Nat.add_sub_cancel] at k
                exact k
            · have e9 : i = q2.length := by omega
              rw [if_neg e1, if_pos e9, if_pos rfl]
      refine g_sub [0, 1, 2, 3] (lv' := [(3, .int (nI (4 * t))), (0, .ref m), (1, .int (nI t)), (2, .int (nI x))]) rfl ?_
      exact loop _ a.length a (MM t) le pg mk (Nat.lt_succ_self _) rfl hR (by rw [va_up_id]; exact hM) rfl (fun i q1 q2 => absurd q1 (by omega))
  · have hm : x ∈ a := of_decide_eq_true c10
    refine g_aload_n (pc := 13) hX dX3_clock_13 rfl 1 rfl ?_
    refine g_get (pc := 14) (C := RX3) (T := TX3) (N := 11) (ci := 3) (v := .ref (am 5)) hX inX3_clock_X3 0 rfl rfl 5 (by decide) flX3_clock_25 rfl rfl dX3_clock_14 ?_
    refine g_bipush (pc := 17) (v := (nI 64)) hX dX3_clock_17 (by decide) ?_
    refine g_iload_n (pc := 19) hX dX3_clock_19 rfl 2 rfl ?_
    refine g_imulN (pc := 20) (r := 64 * t) hX dX3_clock_20 (by first | rfl | omega) ?_
    refine g_iload_n (pc := 21) hX dX3_clock_21 rfl 3 rfl ?_
    refine g_iaddN (pc := 22) (r := (64 * t) + x) hX dX3_clock_22 (by first | rfl | omega) ?_
    refine g_iconst (pc := 23) (v := (nI 1)) hX dX3_clock_23 (by decide) ?_
    refine g_zast (pc := 24) (ws' := [(m, .inr (3, [.ref (am 0), .ref (am 1), .ref (am 2), .ref (am 3), .ref (am 4), .ref (am 5), .ref (am 6), .ref (am 7), .int rd, .int wr, .int (-1)])), (am 0, .inl (K.2.1, 2, .inl po)), (am 1, .inl (K.2.1, 2, .inl ca)), (am 2, .inl (K.2.1, 2, .inl go)), (am 3, .inl (K.2.1, 8, .inl le)), (am 4, .inl (K.2.1, 160, .inl pg)), (am 5, .inl (K.2.2.1, 128, .inl (upd mk ((64 * t) + x) (nI 1)))), (am 6, .inl (K.2.2.1, 128, .inl we)), (am 7, .inl (K.2.1, 6, .inl co))]) hX 6 rfl (by omega) (by omega) (by decide) rfl dX3_clock_24 ?_
    refine g_iconst (pc := 25) (v := (nI 1)) hX dX3_clock_25 (by decide) ?_
    refine g_top (y := bI true) (by decide) ?_
    rw [show sClock c a (MM t) x = (none, a, setB (MM t) x true) from if_pos hm] at hs
    cases hs
    exact hret (v := true) (u := (le, pg, upd mk ((64 * t) + x) (nI 1), (-1))) dX3_clock_26 (⟨by rw [bI_mem hm]; rfl, hR, hM.set ht hx true, rfl⟩) rfl
abbrev rmX3_makeRoom : Room := { frames := 1, cells := 0, slots := 0, locals := 23 }
theorem flX3_makeRoom_13 : Cond.fieldLink RX3 13 "TwoTierCacheModel" "capacities" "[I" ∈ wsX3_makeRoom := by decide +kernel
theorem inX3_makeRoom_X3 : ∀ w ∈ u_ws RX3 TX3 11, w ∈ wsX3_makeRoom := by decide +kernel
theorem flX3_makeRoom_19 : Cond.fieldLink RX3 19 "TwoTierCacheModel" "lengths" "[I" ∈ wsX3_makeRoom := by decide +kernel
theorem flX3_makeRoom_65 : Cond.fieldLink RX3 65 "TwoTierCacheModel" "victim" "I" ∈ wsX3_makeRoom := by decide +kernel
set_option maxHeartbeats 4000000 in
set_option maxRecDepth 100000 in
/-- makeRoom -/
theorem c_X3_makeRoom (l : Launch) (K : gT) (m : Nat) (am : Nat → Nat) (po ca go le pg mk we co : Nat → Int32) (rd wr : Int32) (t : Nat) (ht : t < 2) (c : Nat) (a b d e : List Nat) (RO : Nat → List Nat) (hR : rowsR le pg (rr t a b d e RO)) (hca : ca t = nI c) (hc1 : 1 ≤ c) (hc2 : c ≤ 16) (hb : b.length ≤ 16) : Cv l yX3_makeRoom wsX3_makeRoom rmX3_makeRoom K [.ref m, .int (nI t)] (mW K m am po ca go le pg mk we co rd wr (-1)) (fun (u : (Nat → Int32) × (Nat → Int32) × Int32) => rowsR u.1 u.2.1 (rr t (sQroom c a b d).2.1 (sQroom c a b d).2.2.1 (sQroom c a b d).2.2.2 e RO) ∧ u.2.2 = pI (sQroom c a b d).1) (fun u => mW K m am po ca go u.1 u.2.1 mk we co rd wr u.2.2) 0 0 := by
  refine m_v (cc := cX3_makeRoom) (own := RX3) (maxL := 5) (lv0 := [(0, .ref m), (1, .int (nI t))]) (by decide) rfl rfl (Nat.le_of_ble_eq_true rfl) rfl ?_
  intro X hX hin hret
  refine g_ws (ws' := [(m, .inr (3, [.ref (am 0), .ref (am 1), .ref (am 2), .ref (am 3), .ref (am 4), .ref (am 5), .ref (am 6), .ref (am 7), .int rd, .int wr, .int (-1)])), (am 0, .inl (K.2.1, 2, .inl po)), (am 1, .inl (K.2.1, 2, .inl ca)), (am 2, .inl (K.2.1, 2, .inl go)), (am 3, .inl (K.2.1, 8, .inl le)), (am 4, .inl (K.2.1, 160, .inl pg)), (am 5, .inl (K.2.2.1, 128, .inl mk)), (am 6, .inl (K.2.2.1, 128, .inl we)), (am 7, .inl (K.2.1, 6, .inl co))]) rfl ?_
  have la := (rr_l0 hR ht).2.1
  have lb := (rr_l1 hR ht).2.1
  have ld := (rr_l2 hR ht).2.1
  have lle := (rr_l3 hR ht).2.1
  generalize hs : sQroom c a b d = rs at hret
  obtain ⟨o, a2, b2, d2⟩ := rs
  refine g_iconst (pc := 0) (v := (nI 4)) hX dX3_makeRoom_0 (by decide) ?_
  refine g_iload_n (pc := 1) hX dX3_makeRoom_1 rfl 1 rfl ?_
  refine g_imulN (pc := 2) (r := 4 * t) hX dX3_makeRoom_2 (by first | rfl | omega) ?_
  refine g_istore_n (pc := 3) (lv' := [(2, .int (nI (4 * t))), (0, .ref m), (1, .int (nI t))]) hX dX3_makeRoom_3 rfl (by decide) rfl ?_
  refine g_aload_n (pc := 4) hX dX3_makeRoom_4 rfl 1 rfl ?_
  refine g_get (pc := 5) (C := RX3) (T := TX3) (N := 11) (ci := 3) (v := .ref (am 1)) hX inX3_makeRoom_X3 0 rfl rfl 1 (by decide) flX3_makeRoom_13 rfl rfl dX3_makeRoom_5 ?_
  refine g_iload_n (pc := 8) hX dX3_makeRoom_8 rfl 2 rfl ?_
  refine g_iald (pc := 9) (v := (nI c)) hX 2 rfl (by omega) (by omega) hca dX3_makeRoom_9 ?_
  refine g_istore_n (pc := 10) (lv' := [(3, .int (nI c)), (2, .int (nI (4 * t))), (0, .ref m), (1, .int (nI t))]) hX dX3_makeRoom_10 rfl (by decide) rfl ?_
  refine g_aload_n (pc := 11) hX dX3_makeRoom_11 rfl 2 rfl ?_
  refine g_get (pc := 12) (C := RX3) (T := TX3) (N := 11) (ci := 3) (v := .ref (am 3)) hX inX3_makeRoom_X3 0 rfl rfl 3 (by decide) flX3_makeRoom_19 rfl rfl dX3_makeRoom_12 ?_
  refine g_iload_n (pc := 15) hX dX3_makeRoom_15 rfl 1 rfl ?_
  refine g_iald (pc := 16) (v := (nI a.length)) hX 4 rfl (by omega) (by omega) (rr_l0 hR ht).1 dX3_makeRoom_16 ?_
  refine g_aload_n (pc := 17) hX dX3_makeRoom_17 rfl 2 rfl ?_
  refine g_get (pc := 18) (C := RX3) (T := TX3) (N := 11) (ci := 3) (v := .ref (am 3)) hX inX3_makeRoom_X3 0 rfl rfl 3 (by decide) flX3_makeRoom_19 rfl rfl dX3_makeRoom_18 ?_
  refine g_iload_n (pc := 21) hX dX3_makeRoom_21 rfl 1 rfl ?_
  refine g_iconst (pc := 22) (v := (nI 2)) hX dX3_makeRoom_22 (by decide) ?_
  refine g_iaddN (pc := 23) (r := (4 * t) + 2) hX dX3_makeRoom_23 (by first | rfl | omega) ?_
  refine g_iald (pc := 24) (v := (nI d.length)) hX 4 rfl (by omega) (by omega) (rr_l2 hR ht).1 dX3_makeRoom_24 ?_
  refine g_iaddN (pc := 25) (r := a.length + d.length) hX dX3_makeRoom_25 (by first | rfl | omega) ?_
  refine g_iload_n (pc := 26) hX dX3_makeRoom_26 rfl 0 rfl ?_
  refine g_icmpN_ge (pc := 27) (tgt := 31) hX (by omega) (by omega) dX3_makeRoom_27 (by decide) (fun c27 => ?_) (fun c27 => ?_)
  · refine g_aload_n (pc := 31) hX dX3_makeRoom_31 rfl 2 rfl ?_
    refine g_get (pc := 32) (C := RX3) (T := TX3) (N := 11) (ci := 3) (v := .ref (am 3)) hX inX3_makeRoom_X3 0 rfl rfl 3 (by decide) flX3_makeRoom_19 rfl rfl dX3_makeRoom_32 ?_
    refine g_iload_n (pc := 35) hX dX3_makeRoom_35 rfl 1 rfl ?_
    refine g_iald (pc := 36) (v := (nI a.length)) hX 4 rfl (by omega) (by omega) (rr_l0 hR ht).1 dX3_makeRoom_36 ?_
    refine g_iload_n (pc := 37) hX dX3_makeRoom_37 rfl 0 rfl ?_
    refine g_iconst (pc := 38) (v := (nI 4)) hX dX3_makeRoom_38 (by decide) ?_
    refine g_idivN (pc := 39) (r := c / 4) hX dX3_makeRoom_39 (by omega) (by omega) (by omega) rfl ?_
    refine g_icmpN_gt (pc := 40) (tgt := 55) hX (by omega) (by omega) dX3_makeRoom_40 (by decide) (fun c40 => ?_) (fun c40 => ?_)
    · refine g_aload_n (pc := 55) hX dX3_makeRoom_55 rfl 2 rfl ?_
      refine g_aload_n (pc := 56) hX dX3_makeRoom_56 rfl 2 rfl ?_
      refine g_iload_n (pc := 57) hX dX3_makeRoom_57 rfl 1 rfl ?_
      refine g_ci (pc := 58) hX (wc := [(m, .inr (3, [.ref (am 0), .ref (am 1), .ref (am 2), .ref (am 3), .ref (am 4), .ref (am 5), .ref (am 6), .ref (am 7), .int rd, .int wr, .int (-1)])), (am 0, .inl (K.2.1, 2, .inl po)), (am 1, .inl (K.2.1, 2, .inl ca)), (am 2, .inl (K.2.1, 2, .inl go)), (am 3, .inl (K.2.1, 8, .inl le)), (am 4, .inl (K.2.1, 160, .inl pg)), (am 5, .inl (K.2.2.1, 128, .inl mk)), (am 6, .inl (K.2.2.1, 128, .inl we)), (am 7, .inl (K.2.1, 6, .inl co))]) (wr := []) (Wd' := fun u58 => [(m, .inr (3, [.ref (am 0), .ref (am 1), .ref (am 2), .ref (am 3), .ref (am 4), .ref (am 5), .ref (am 6), .ref (am 7), .int rd, .int wr, .int (-1)])), (am 0, .inl (K.2.1, 2, .inl po)), (am 1, .inl (K.2.1, 2, .inl ca)), (am 2, .inl (K.2.1, 2, .inl go)), (am 3, .inl (K.2.1, 8, .inl u58)), (am 4, .inl (K.2.1, 160, .inl pg)), (am 5, .inl (K.2.2.1, 128, .inl mk)), (am 6, .inl (K.2.2.1, 128, .inl we)), (am 7, .inl (K.2.1, 6, .inl co))]) (g_goV (pc := 58) hX (As := [.int (nI (4 * t))]) (stk := [.ref m]) (wc := [(m, .inr (3, [.ref (am 0), .ref (am 1), .ref (am 2), .ref (am 3), .ref (am 4), .ref (am 5), .ref (am 6), .ref (am 7), .int rd, .int wr, .int (-1)])), (am 0, .inl (K.2.1, 2, .inl po)), (am 1, .inl (K.2.1, 2, .inl ca)), (am 2, .inl (K.2.1, 2, .inl go)), (am 3, .inl (K.2.1, 8, .inl le)), (am 4, .inl (K.2.1, 160, .inl pg)), (am 5, .inl (K.2.2.1, 128, .inl mk)), (am 6, .inl (K.2.2.1, 128, .inl we)), (am 7, .inl (K.2.1, 6, .inl co))]) (c_X3_cutTail l K m am po ca go le pg mk we co rd wr (-1) (rr t a b d e RO) hR (4 * t) (by omega) (by rw [rr_0]; omega)) rfl rfl rfl gX3_makeRoom_X3_cutTail nX3_cutTailV rfl 0 rfl ⟨(Nat.le_of_ble_eq_true rfl), (Nat.le_of_ble_eq_true rfl)⟩ [0, 1, 2, 3, 4, 5, 6, 7, 8] rfl rfl rfl (Nat.le_of_ble_eq_true rfl) dX3_makeRoom_58 ⟨(Nat.le_of_ble_eq_true rfl), (Nat.le_of_ble_eq_true rfl)⟩) [0, 1, 2, 3, 4, 5, 6, 7, 8] [] [0, 1, 2, 3, 4, 5, 6, 7, 8] rfl rfl rfl (by decide) rfl (fun _ => rfl) (fun r u58 h58 => ?_)
      obtain ⟨rfl, hR58⟩ := h58
      refine g_top (y := (nI (lastD a))) (by rw [rr_0]) ?_
      rw [rr_0, rr_u0] at hR58
      have hv58 := (rr_l0 hR ht).2.2.1.last
      have hd58 := dl_len a
      refine g_put (pc := 61) (C := RX3) (T := TX3) (N := 11) (ci := 3) (v := .int (nI (lastD a))) (ws' := [(m, .inr (3, [.ref (am 0), .ref (am 1), .ref (am 2), .ref (am 3), .ref (am 4), .ref (am 5), .ref (am 6), .ref (am 7), .int rd, .int wr, .int (nI (lastD a))])), (am 0, .inl (K.2.1, 2, .inl po)), (am 1, .inl (K.2.1, 2, .inl ca)), (am 2, .inl (K.2.1, 2, .inl go)), (am 3, .inl (K.2.1, 8, .inl u58)), (am 4, .inl (K.2.1, 160, .inl pg)), (am 5, .inl (K.2.2.1, 128, .inl mk)), (am 6, .inl (K.2.2.1, 128, .inl we)), (am 7, .inl (K.2.1, 6, .inl co))]) hX inX3_makeRoom_X3 tyX3 tyX3_ok nmX3 0 rfl rfl 10 (by decide) flX3_makeRoom_65 rfl rfl rfl rfl (Nat.le_of_ble_eq_true rfl) rfl dX3_makeRoom_61 ?_
      refine g_aload_n (pc := 64) hX dX3_makeRoom_64 rfl 2 rfl ?_
      refine g_iload_n (pc := 65) hX dX3_makeRoom_65 rfl 1 rfl ?_
      refine g_iconst (pc := 66) (v := (nI 1)) hX dX3_makeRoom_66 (by decide) ?_
      refine g_iaddN (pc := 67) (r := (4 * t) + 1) hX dX3_makeRoom_67 (by first | rfl | omega) ?_
      refine g_aload_n (pc := 68) hX dX3_makeRoom_68 rfl 2 rfl ?_
      refine g_get (pc := 69) (C := RX3) (T := TX3) (N := 11) (ci := 3) (v := .int (nI (lastD a))) hX inX3_makeRoom_X3 0 rfl rfl 10 (by decide) flX3_makeRoom_65 rfl rfl dX3_makeRoom_69 ?_
      refine g_cv (pc := 72) hX (wc := [(m, .inr (3, [.ref (am 0), .ref (am 1), .ref (am 2), .ref (am 3), .ref (am 4), .ref (am 5), .ref (am 6), .ref (am 7), .int rd, .int wr, .int (nI (lastD a))])), (am 0, .inl (K.2.1, 2, .inl po)), (am 1, .inl (K.2.1, 2, .inl ca)), (am 2, .inl (K.2.1, 2, .inl go)), (am 3, .inl (K.2.1, 8, .inl u58)), (am 4, .inl (K.2.1, 160, .inl pg)), (am 5, .inl (K.2.2.1, 128, .inl mk)), (am 6, .inl (K.2.2.1, 128, .inl we)), (am 7, .inl (K.2.1, 6, .inl co))]) (wr := []) (Wd' := fun u72 => [(m, .inr (3, [.ref (am 0), .ref (am 1), .ref (am 2), .ref (am 3), .ref (am 4), .ref (am 5), .ref (am 6), .ref (am 7), .int rd, .int wr, .int (nI (lastD a))])), (am 0, .inl (K.2.1, 2, .inl po)), (am 1, .inl (K.2.1, 2, .inl ca)), (am 2, .inl (K.2.1, 2, .inl go)), (am 3, .inl (K.2.1, 8, .inl u72.1)), (am 4, .inl (K.2.1, 160, .inl u72.2)), (am 5, .inl (K.2.2.1, 128, .inl mk)), (am 6, .inl (K.2.2.1, 128, .inl we)), (am 7, .inl (K.2.1, 6, .inl co))]) (g_goV (pc := 72) hX (As := [.int (nI ((4 * t) + 1)), .int (nI (lastD a))]) (stk := []) (wc := [(m, .inr (3, [.ref (am 0), .ref (am 1), .ref (am 2), .ref (am 3), .ref (am 4), .ref (am 5), .ref (am 6), .ref (am 7), .int rd, .int wr, .int (nI (lastD a))])), (am 0, .inl (K.2.1, 2, .inl po)), (am 1, .inl (K.2.1, 2, .inl ca)), (am 2, .inl (K.2.1, 2, .inl go)), (am 3, .inl (K.2.1, 8, .inl u58)), (am 4, .inl (K.2.1, 160, .inl pg)), (am 5, .inl (K.2.2.1, 128, .inl mk)), (am 6, .inl (K.2.2.1, 128, .inl we)), (am 7, .inl (K.2.1, 6, .inl co))]) (c_X3_toHead l K m am po ca go u58 pg mk we co rd wr (nI (lastD a)) (rr t a.dropLast b d e RO) hR58 ((4 * t) + 1) (by omega) (lastD a) hv58 (by rw [rr_1]; show b.length + 1 ≤ 20; omega)) rfl rfl rfl gX3_makeRoom_X3_toHead nX3_toHeadV rfl 0 rfl ⟨(Nat.le_of_ble_eq_true rfl), (Nat.le_of_ble_eq_true rfl)⟩ [0, 1, 2, 3, 4, 5, 6, 7, 8] rfl rfl rfl (Nat.le_of_ble_eq_true rfl) dX3_makeRoom_72 ⟨(Nat.le_of_ble_eq_true rfl), (Nat.le_of_ble_eq_true rfl)⟩) [0, 1, 2, 3, 4, 5, 6, 7, 8] [] [0, 1, 2, 3, 4, 5, 6, 7, 8] rfl rfl rfl (by decide) rfl (fun _ => rfl) (fun u72 h72 => ?_)
      have hR72 := h72
      rw [rr_1, rr_u1] at hR72
      have hl72 := (rr_l1 hR72 ht).2.1
      refine g_iload_n (pc := 75) hX dX3_makeRoom_75 rfl 0 rfl ?_
      refine g_iconst (pc := 76) (v := (nI 2)) hX dX3_makeRoom_76 (by decide) ?_
      refine g_idivN (pc := 77) (r := c / 2) hX dX3_makeRoom_77 (by omega) (by omega) (by omega) rfl ?_
      refine g_iconst (pc := 78) (v := (nI 1)) hX dX3_makeRoom_78 (by decide) ?_
      refine g_icmpN_ge (pc := 79) (tgt := 86) hX (by omega) (by omega) dX3_makeRoom_79 (by decide) (fun c79 => ?_) (fun c79 => ?_)
      · refine g_iload_n (pc := 86) hX dX3_makeRoom_86 rfl 0 rfl ?_
        refine g_iconst (pc := 87) (v := (nI 2)) hX dX3_makeRoom_87 (by decide) ?_
        refine g_idivN (pc := 88) (r := c / 2) hX dX3_makeRoom_88 (by omega) (by omega) (by omega) rfl ?_
        refine g_istore (pc := 89) (lv' := [(4, .int (nI (c / 2))), (3, .int (nI c)), (2, .int (nI (4 * t))), (0, .ref m), (1, .int (nI t))]) hX dX3_makeRoom_89 (by decide) rfl ?_
        refine g_aload_n (pc := 91) hX dX3_makeRoom_91 rfl 3 rfl ?_
        refine g_get (pc := 92) (C := RX3) (T := TX3) (N := 11) (ci := 3) (v := .ref (am 3)) hX inX3_makeRoom_X3 0 rfl rfl 3 (by decide) flX3_makeRoom_19 rfl rfl dX3_makeRoom_92 ?_
        refine g_iload_n (pc := 95) hX dX3_makeRoom_95 rfl 2 rfl ?_
        refine g_iconst (pc := 96) (v := (nI 1)) hX dX3_makeRoom_96 (by decide) ?_
        refine g_iaddN (pc := 97) (r := (4 * t) + 1) hX dX3_makeRoom_97 (by first | rfl | omega) ?_
        refine g_aload_n (pc := 98) hX dX3_makeRoom_98 rfl 3 rfl ?_
        refine g_get (pc := 99) (C := RX3) (T := TX3) (N := 11) (ci := 3) (v := .ref (am 3)) hX inX3_makeRoom_X3 0 rfl rfl 3 (by decide) flX3_makeRoom_19 rfl rfl dX3_makeRoom_99 ?_
        refine g_iload_n (pc := 102) hX dX3_makeRoom_102 rfl 2 rfl ?_
        refine g_iconst (pc := 103) (v := (nI 1)) hX dX3_makeRoom_103 (by decide) ?_
        refine g_iaddN (pc := 104) (r := (4 * t) + 1) hX dX3_makeRoom_104 (by first | rfl | omega) ?_
        refine g_iald (pc := 105) (v := (nI ((lastD a :: b).length))) hX 4 rfl (by omega) (by omega) (rr_l1 hR72 ht).1 dX3_makeRoom_105 ?_
        refine g_iload (pc := 106) hX dX3_makeRoom_106 0 rfl ?_
        refine g_icmpN_le (pc := 108) (tgt := 124) hX (by omega) (by omega) dX3_makeRoom_108 (by decide) (fun c108 => ?_) (fun c108 => ?_)
        · refine g_aload_n (pc := 124) hX dX3_makeRoom_124 rfl 3 rfl ?_
          refine g_get (pc := 125) (C := RX3) (T := TX3) (N := 11) (ci := 3) (v := .ref (am 3)) hX inX3_makeRoom_X3 0 rfl rfl 3 (by decide) flX3_makeRoom_19 rfl rfl dX3_makeRoom_125 ?_
          refine g_iload_n (pc := 128) hX dX3_makeRoom_128 rfl 2 rfl ?_
          refine g_iconst (pc := 129) (v := (nI 1)) hX dX3_makeRoom_129 (by decide) ?_
          refine g_iaddN (pc := 130) (r := (4 * t) + 1) hX dX3_makeRoom_130 (by first | rfl | omega) ?_
          refine g_iald (pc := 131) (v := (nI ((lastD a :: b).length))) hX 4 rfl (by omega) (by omega) (rr_l1 hR72 ht).1 dX3_makeRoom_131 ?_
          refine g_iast (pc := 132) (ws' := [(m, .inr (3, [.ref (am 0), .ref (am 1), .ref (am 2), .ref (am 3), .ref (am 4), .ref (am 5), .ref (am 6), .ref (am 7), .int rd, .int wr, .int (nI (lastD a))])), (am 0, .inl (K.2.1, 2, .inl po)), (am 1, .inl (K.2.1, 2, .inl ca)), (am 2, .inl (K.2.1, 2, .inl go)), (am 3, .inl (K.2.1, 8, .inl (upd u72.1 ((4 * t) + 1) (nI ((lastD a :: b).length))))), (am 4, .inl (K.2.1, 160, .inl u72.2)), (am 5, .inl (K.2.2.1, 128, .inl mk)), (am 6, .inl (K.2.2.1, 128, .inl we)), (am 7, .inl (K.2.1, 6, .inl co))]) hX 4 rfl (by omega) (by omega) rfl dX3_makeRoom_132 ?_
          refine g_ws (ws' := [(m, .inr (3, [.ref (am 0), .ref (am 1), .ref (am 2), .ref (am 3), .ref (am 4), .ref (am 5), .ref (am 6), .ref (am 7), .int rd, .int wr, .int (nI (lastD a))])), (am 0, .inl (K.2.1, 2, .inl po)), (am 1, .inl (K.2.1, 2, .inl ca)), (am 2, .inl (K.2.1, 2, .inl go)), (am 3, .inl (K.2.1, 8, .inl u72.1)), (am 4, .inl (K.2.1, 160, .inl u72.2)), (am 5, .inl (K.2.2.1, 128, .inl mk)), (am 6, .inl (K.2.2.1, 128, .inl we)), (am 7, .inl (K.2.1, 6, .inl co))]) (by rw [upd_same (rr_l1 hR72 ht).1]) ?_
          rw [show sQroom c a b d = (some (lastD a), a.dropLast, lastD a :: b, d) from by unfold sQroom; rw [if_neg (by omega), if_neg (by omega), if_neg (show ¬ (max 1 (c / 2) < b.length + 1) by have k9 : b.length + 1 ≤ _ := c108; omega)]] at hs
          cases hs
          exact hret (u := (u72.1, u72.2, (nI (lastD a)))) dX3_makeRoom_133 (⟨hR72, rfl⟩) rfl
        · refine g_aload_n (pc := 111) hX dX3_makeRoom_111 rfl 3 rfl ?_
          refine g_get (pc := 112) (C := RX3) (T := TX3) (N := 11) (ci := 3) (v := .ref (am 3)) hX inX3_makeRoom_X3 0 rfl rfl 3 (by decide) flX3_makeRoom_19 rfl rfl dX3_makeRoom_112 ?_
          refine g_iload_n (pc := 115) hX dX3_makeRoom_115 rfl 2 rfl ?_
          refine g_iconst (pc := 116) (v := (nI 1)) hX dX3_makeRoom_116 (by decide) ?_
          refine g_iaddN (pc := 117) (r := (4 * t) + 1) hX dX3_makeRoom_117 (by first | rfl | omega) ?_
          refine g_iald (pc := 118) (v := (nI ((lastD a :: b).length))) hX 4 rfl (by omega) (by omega) (rr_l1 hR72 ht).1 dX3_makeRoom_118 ?_
          refine g_iconst (pc := 119) (v := (nI 1)) hX dX3_makeRoom_119 (by decide) ?_
          refine g_isubN (pc := 120) (r := ((lastD a :: b).length) - 1) hX dX3_makeRoom_120 (by omega) ?_
          refine g_goto (pc := 121) (tgt := 132) hX dX3_makeRoom_121 (by decide) ?_
          refine g_iast (pc := 132) (ws' := [(m, .inr (3, [.ref (am 0), .ref (am 1), .ref (am 2), .ref (am 3), .ref (am 4), .ref (am 5), .ref (am 6), .ref (am 7), .int rd, .int wr, .int (nI (lastD a))])), (am 0, .inl (K.2.1, 2, .inl po)), (am 1, .inl (K.2.1, 2, .inl ca)), (am 2, .inl (K.2.1, 2, .inl go)), (am 3, .inl (K.2.1, 8, .inl (upd u72.1 ((4 * t) + 1) (nI (((lastD a :: b).length) - 1))))), (am 4, .inl (K.2.1, 160, .inl u72.2)), (am 5, .inl (K.2.2.1, 128, .inl mk)), (am 6, .inl (K.2.2.1, 128, .inl we)), (am 7, .inl (K.2.1, 6, .inl co))]) hX 4 rfl (by omega) (by omega) rfl dX3_makeRoom_132 ?_
          have hR133 := rowsR.cut hR72 (w := 4 * t + 1) (by omega)
          rw [rr_1, rr_u1] at hR133
          have hd133 := dl_len (lastD a :: b)
          rw [show sQroom c a b d = (some (lastD a), a.dropLast, (lastD a :: b).dropLast, d) from by unfold sQroom; rw [if_neg (by omega), if_neg (by omega), if_pos (show max 1 (c / 2) < b.length + 1 by have k9 : _ < b.length + 1 := c108; omega)]] at hs
          cases hs
          exact hret (u := (upd u72.1 ((4 * t) + 1) (nI (((lastD a :: b).length) - 1)), u72.2, (nI (lastD a)))) dX3_makeRoom_133 (⟨hR133, rfl⟩) rfl
      · refine g_iconst (pc := 82) (v := (nI 1)) hX dX3_makeRoom_82 (by decide) ?_
        refine g_goto (pc := 83) (tgt := 89) hX dX3_makeRoom_83 (by decide) ?_
        refine g_istore (pc := 89) (lv' := [(4, .int (nI 1)), (3, .int (nI c)), (2, .int (nI (4 * t))), (0, .ref m), (1, .int (nI t))]) hX dX3_makeRoom_89 (by decide) rfl ?_
        refine g_aload_n (pc := 91) hX dX3_makeRoom_91 rfl 3 rfl ?_
        refine g_get (pc := 92) (C := RX3) (T := TX3) (N := 11) (ci := 3) (v := .ref (am 3)) hX inX3_makeRoom_X3 0 rfl rfl 3 (by decide) flX3_makeRoom_19 rfl rfl dX3_makeRoom_92 ?_
        refine g_iload_n (pc := 95) hX dX3_makeRoom_95 rfl 2 rfl ?_
        refine g_iconst (pc := 96) (v := (nI 1)) hX dX3_makeRoom_96 (by decide) ?_
        refine g_iaddN (pc := 97) (r := (4 * t) + 1) hX dX3_makeRoom_97 (by first | rfl | omega) ?_
        refine g_aload_n (pc := 98) hX dX3_makeRoom_98 rfl 3 rfl ?_
        refine g_get (pc := 99) (C := RX3) (T := TX3) (N := 11) (ci := 3) (v := .ref (am 3)) hX inX3_makeRoom_X3 0 rfl rfl 3 (by decide) flX3_makeRoom_19 rfl rfl dX3_makeRoom_99 ?_
        refine g_iload_n (pc := 102) hX dX3_makeRoom_102 rfl 2 rfl ?_
        refine g_iconst (pc := 103) (v := (nI 1)) hX dX3_makeRoom_103 (by decide) ?_
        refine g_iaddN (pc := 104) (r := (4 * t) + 1) hX dX3_makeRoom_104 (by first | rfl | omega) ?_
        refine g_iald (pc := 105) (v := (nI ((lastD a :: b).length))) hX 4 rfl (by omega) (by omega) (rr_l1 hR72 ht).1 dX3_makeRoom_105 ?_
        refine g_iload (pc := 106) hX dX3_makeRoom_106 0 rfl ?_
        refine g_icmpN_le (pc := 108) (tgt := 124) hX (by omega) (by omega) dX3_makeRoom_108 (by decide) (fun c108 => ?_) (fun c108 => ?_)
        · refine g_aload_n (pc := 124) hX dX3_makeRoom_124 rfl 3 rfl ?_
          refine g_get (pc := 125) (C := RX3) (T := TX3) (N := 11) (ci := 3) (v := .ref (am 3)) hX inX3_makeRoom_X3 0 rfl rfl 3 (by decide) flX3_makeRoom_19 rfl rfl dX3_makeRoom_125 ?_
          refine g_iload_n (pc := 128) hX dX3_makeRoom_128 rfl 2 rfl ?_
          refine g_iconst (pc := 129) (v := (nI 1)) hX dX3_makeRoom_129 (by decide) ?_
          refine g_iaddN (pc := 130) (r := (4 * t) + 1) hX dX3_makeRoom_130 (by first | rfl | omega) ?_
          refine g_iald (pc := 131) (v := (nI ((lastD a :: b).length))) hX 4 rfl (by omega) (by omega) (rr_l1 hR72 ht).1 dX3_makeRoom_131 ?_
          refine g_iast (pc := 132) (ws' := [(m, .inr (3, [.ref (am 0), .ref (am 1), .ref (am 2), .ref (am 3), .ref (am 4), .ref (am 5), .ref (am 6), .ref (am 7), .int rd, .int wr, .int (nI (lastD a))])), (am 0, .inl (K.2.1, 2, .inl po)), (am 1, .inl (K.2.1, 2, .inl ca)), (am 2, .inl (K.2.1, 2, .inl go)), (am 3, .inl (K.2.1, 8, .inl (upd u72.1 ((4 * t) + 1) (nI ((lastD a :: b).length))))), (am 4, .inl (K.2.1, 160, .inl u72.2)), (am 5, .inl (K.2.2.1, 128, .inl mk)), (am 6, .inl (K.2.2.1, 128, .inl we)), (am 7, .inl (K.2.1, 6, .inl co))]) hX 4 rfl (by omega) (by omega) rfl dX3_makeRoom_132 ?_
          refine g_ws (ws' := [(m, .inr (3, [.ref (am 0), .ref (am 1), .ref (am 2), .ref (am 3), .ref (am 4), .ref (am 5), .ref (am 6), .ref (am 7), .int rd, .int wr, .int (nI (lastD a))])), (am 0, .inl (K.2.1, 2, .inl po)), (am 1, .inl (K.2.1, 2, .inl ca)), (am 2, .inl (K.2.1, 2, .inl go)), (am 3, .inl (K.2.1, 8, .inl u72.1)), (am 4, .inl (K.2.1, 160, .inl u72.2)), (am 5, .inl (K.2.2.1, 128, .inl mk)), (am 6, .inl (K.2.2.1, 128, .inl we)), (am 7, .inl (K.2.1, 6, .inl co))]) (by rw [upd_same (rr_l1 hR72 ht).1]) ?_
          rw [show sQroom c a b d = (some (lastD a), a.dropLast, lastD a :: b, d) from by unfold sQroom; rw [if_neg (by omega), if_neg (by omega), if_neg (show ¬ (max 1 (c / 2) < b.length + 1) by have k9 : b.length + 1 ≤ _ := c108; omega)]] at hs
          cases hs
          exact hret (u := (u72.1, u72.2, (nI (lastD a)))) dX3_makeRoom_133 (⟨hR72, rfl⟩) rfl
        · refine g_aload_n (pc := 111) hX dX3_makeRoom_111 rfl 3 rfl ?_
          refine g_get (pc := 112) (C := RX3) (T := TX3) (N := 11) (ci := 3) (v := .ref (am 3)) hX inX3_makeRoom_X3 0 rfl rfl 3 (by decide) flX3_makeRoom_19 rfl rfl dX3_makeRoom_112 ?_
          refine g_iload_n (pc := 115) hX dX3_makeRoom_115 rfl 2 rfl ?_
          refine g_iconst (pc := 116) (v := (nI 1)) hX dX3_makeRoom_116 (by decide) ?_
          refine g_iaddN (pc := 117) (r := (4 * t) + 1) hX dX3_makeRoom_117 (by first | rfl | omega) ?_
          refine g_iald (pc := 118) (v := (nI ((lastD a :: b).length))) hX 4 rfl (by omega) (by omega) (rr_l1 hR72 ht).1 dX3_makeRoom_118 ?_
          refine g_iconst (pc := 119) (v := (nI 1)) hX dX3_makeRoom_119 (by decide) ?_
          refine g_isubN (pc := 120) (r := ((lastD a :: b).length) - 1) hX dX3_makeRoom_120 (by omega) ?_
          refine g_goto (pc := 121) (tgt := 132) hX dX3_makeRoom_121 (by decide) ?_
          refine g_iast (pc := 132) (ws' := [(m, .inr (3, [.ref (am 0), .ref (am 1), .ref (am 2), .ref (am 3), .ref (am 4), .ref (am 5), .ref (am 6), .ref (am 7), .int rd, .int wr, .int (nI (lastD a))])), (am 0, .inl (K.2.1, 2, .inl po)), (am 1, .inl (K.2.1, 2, .inl ca)), (am 2, .inl (K.2.1, 2, .inl go)), (am 3, .inl (K.2.1, 8, .inl (upd u72.1 ((4 * t) + 1) (nI (((lastD a :: b).length) - 1))))), (am 4, .inl (K.2.1, 160, .inl u72.2)), (am 5, .inl (K.2.2.1, 128, .inl mk)), (am 6, .inl (K.2.2.1, 128, .inl we)), (am 7, .inl (K.2.1, 6, .inl co))]) hX 4 rfl (by omega) (by omega) rfl dX3_makeRoom_132 ?_
          have hR133 := rowsR.cut hR72 (w := 4 * t + 1) (by omega)
          rw [rr_1, rr_u1] at hR133
          have hd133 := dl_len (lastD a :: b)
          rw [show sQroom c a b d = (some (lastD a), a.dropLast, (lastD a :: b).dropLast, d) from by unfold sQroom; rw [if_neg (by omega), if_neg (by omega), if_pos (show max 1 (c / 2) < b.length + 1 by have k9 : _ < b.length + 1 := c108; omega)]] at hs
          cases hs
          exact hret (u := (upd u72.1 ((4 * t) + 1) (nI (((lastD a :: b).length) - 1)), u72.2, (nI (lastD a)))) dX3_makeRoom_133 (⟨hR133, rfl⟩) rfl
    · refine g_aload_n (pc := 43) hX dX3_makeRoom_43 rfl 2 rfl ?_
      refine g_aload_n (pc := 44) hX dX3_makeRoom_44 rfl 2 rfl ?_
      refine g_iload_n (pc := 45) hX dX3_makeRoom_45 rfl 1 rfl ?_
      refine g_iconst (pc := 46) (v := (nI 2)) hX dX3_makeRoom_46 (by decide) ?_
      refine g_iaddN (pc := 47) (r := (4 * t) + 2) hX dX3_makeRoom_47 (by first | rfl | omega) ?_
      refine g_ci (pc := 48) hX (wc := [(m, .inr (3, [.ref (am 0), .ref (am 1), .ref (am 2), .ref (am 3), .ref (am 4), .ref (am 5), .ref (am 6), .ref (am 7), .int rd, .int wr, .int (-1)])), (am 0, .inl (K.2.1, 2, .inl po)), (am 1, .inl (K.2.1, 2, .inl ca)), (am 2, .inl (K.2.1, 2, .inl go)), (am 3, .inl (K.2.1, 8, .inl le)), (am 4, .inl (K.2.1, 160, .inl pg)), (am 5, .inl (K.2.2.1, 128, .inl mk)), (am 6, .inl (K.2.2.1, 128, .inl we)), (am 7, .inl (K.2.1, 6, .inl co))]) (wr := []) (Wd' := fun u48 => [(m, .inr (3, [.ref (am 0), .ref (am 1), .ref (am 2), .ref (am 3), .ref (am 4), .ref (am 5), .ref (am 6), .ref (am 7), .int rd, .int wr, .int (-1)])), (am 0, .inl (K.2.1, 2, .inl po)), (am 1, .inl (K.2.1, 2, .inl ca)), (am 2, .inl (K.2.1, 2, .inl go)), (am 3, .inl (K.2.1, 8, .inl u48)), (am 4, .inl (K.2.1, 160, .inl pg)), (am 5, .inl (K.2.2.1, 128, .inl mk)), (am 6, .inl (K.2.2.1, 128, .inl we)), (am 7, .inl (K.2.1, 6, .inl co))]) (g_goV (pc := 48) hX (As := [.int (nI ((4 * t) + 2))]) (stk := [.ref m]) (wc := [(m, .inr (3, [.ref (am 0), .ref (am 1), .ref (am 2), .ref (am 3), .ref (am 4), .ref (am 5), .ref (am 6), .ref (am 7), .int rd, .int wr, .int (-1)])), (am 0, .inl (K.2.1, 2, .inl po)), (am 1, .inl (K.2.1, 2, .inl ca)), (am 2, .inl (K.2.1, 2, .inl go)), (am 3, .inl (K.2.1, 8, .inl le)), (am 4, .inl (K.2.1, 160, .inl pg)), (am 5, .inl (K.2.2.1, 128, .inl mk)), (am 6, .inl (K.2.2.1, 128, .inl we)), (am 7, .inl (K.2.1, 6, .inl co))]) (c_X3_cutTail l K m am po ca go le pg mk we co rd wr (-1) (rr t a b d e RO) hR ((4 * t) + 2) (by omega) (by rw [rr_2]; omega)) rfl rfl rfl gX3_makeRoom_X3_cutTail nX3_cutTailV rfl 0 rfl ⟨(Nat.le_of_ble_eq_true rfl), (Nat.le_of_ble_eq_true rfl)⟩ [0, 1, 2, 3, 4, 5, 6, 7, 8] rfl rfl rfl (Nat.le_of_ble_eq_true rfl) dX3_makeRoom_48 ⟨(Nat.le_of_ble_eq_true rfl), (Nat.le_of_ble_eq_true rfl)⟩) [0, 1, 2, 3, 4, 5, 6, 7, 8] [] [0, 1, 2, 3, 4, 5, 6, 7, 8] rfl rfl rfl (by decide) rfl (fun _ => rfl) (fun r u48 h48 => ?_)
      obtain ⟨rfl, hR48⟩ := h48
      refine g_top (y := (nI (lastD d))) (by rw [rr_2]) ?_
      rw [rr_2, rr_u2] at hR48
      have hv48 := (rr_l2 hR ht).2.2.1.last
      have hd48 := dl_len d
      refine g_put (pc := 51) (C := RX3) (T := TX3) (N := 11) (ci := 3) (v := .int (nI (lastD d))) (ws' := [(m, .inr (3, [.ref (am 0), .ref (am 1), .ref (am 2), .ref (am 3), .ref (am 4), .ref (am 5), .ref (am 6), .ref (am 7), .int rd, .int wr, .int (nI (lastD d))])), (am 0, .inl (K.2.1, 2, .inl po)), (am 1, .inl (K.2.1, 2, .inl ca)), (am 2, .inl (K.2.1, 2, .inl go)), (am 3, .inl (K.2.1, 8, .inl u48)), (am 4, .inl (K.2.1, 160, .inl pg)), (am 5, .inl (K.2.2.1, 128, .inl mk)), (am 6, .inl (K.2.2.1, 128, .inl we)), (am 7, .inl (K.2.1, 6, .inl co))]) hX inX3_makeRoom_X3 tyX3 tyX3_ok nmX3 0 rfl rfl 10 (by decide) flX3_makeRoom_65 rfl rfl rfl rfl (Nat.le_of_ble_eq_true rfl) rfl dX3_makeRoom_51 ?_
      rw [show sQroom c a b d = (some (lastD d), a, b, d.dropLast) from by unfold sQroom; rw [if_neg (by omega), if_pos c40, gl_last (by omega)]] at hs
      cases hs
      exact hret (u := (u48, pg, (nI (lastD d)))) dX3_makeRoom_54 (⟨hR48, rfl⟩) rfl
  · rw [show sQroom c a b d = (none, a, b, d) from if_pos c27] at hs
    cases hs
    exact hret (u := (le, pg, (-1))) dX3_makeRoom_30 (⟨hR, rfl⟩) rfl
abbrev rmX3_queues : Room := { frames := 3, cells := 0, slots := 0, locals := 70 }
theorem nX3_makeRoomV : yX3_makeRoom.cls = RX3 ∧ yX3_makeRoom.cls ≠ "java/lang/invoke/MethodHandle" ∧ yX3_makeRoom.cls ≠ "java/lang/invoke/VarHandle" ∧ (parseMethodDescriptor yX3_makeRoom.desc).map (fun d => d.parameters.length) = some 1 := by decide +kernel
set_option maxHeartbeats 4000000 in
set_option maxRecDepth 100000 in
/-- queues -/
theorem c_X3_queues (l : Launch) (K : gT) (m : Nat) (am : Nat → Nat) (po ca go le pg mk we co : Nat → Int32) (rd wr : Int32) (t : Nat) (ht : t < 2) (c : Nat) (a b d e : List Nat) (RO : Nat → List Nat) (hR : rowsR le pg (rr t a b d e RO)) (hca : ca t = nI c) (hc1 : 1 ≤ c) (hc2 : c ≤ 16) (had : a.length + d.length ≤ c) (hb : b.length ≤ 16) (x : Nat) (hx : x < 64) : Ci l yX3_queues wsX3_queues rmX3_queues K [.ref m, .int (nI t), .int (nI x)] (mW K m am po ca go le pg mk we co rd wr (-1)) (fun (r : Int32) (u : (Nat → Int32) × (Nat → Int32) × Int32) => r = bI (sHolds 2 a b d x) ∧ rowsR u.1 u.2.1 (rr t (sQueues c a b d x).2.1 (sQueues c a b d x).2.2.1 (sQueues c a b d x).2.2.2 e RO) ∧ u.2.2 = pI (sQueues c a b d x).1) (fun u => mW K m am po ca go u.1 u.2.1 mk we co rd wr u.2.2) 0 0 := by
  refine m_z (cc := cX3_queues) (own := RX3) (maxL := 5) (lv0 := [(0, .ref m), (1, .int (nI t)), (2, .int (nI x))]) (by decide) rfl rfl (Nat.le_of_ble_eq_true rfl) rfl ?_
  intro X hX hin hret
  refine g_ws (ws' := [(m, .inr (3, [.ref (am 0), .ref (am 1), .ref (am 2), .ref (am 3), .ref (am 4), .ref (am 5), .ref (am 6), .ref (am 7), .int rd, .int wr, .int (-1)])), (am 0, .inl (K.2.1, 2, .inl po)), (am 1, .inl (K.2.1, 2, .inl ca)), (am 2, .inl (K.2.1, 2, .inl go)), (am 3, .inl (K.2.1, 8, .inl le)), (am 4, .inl (K.2.1, 160, .inl pg)), (am 5, .inl (K.2.2.1, 128, .inl mk)), (am 6, .inl (K.2.2.1, 128, .inl we)), (am 7, .inl (K.2.1, 6, .inl co))]) rfl ?_
  have la := (rr_l0 hR ht).2.1
  have lb := (rr_l1 hR ht).2.1
  have ld := (rr_l2 hR ht).2.1
  have lle := (rr_l3 hR ht).2.1
  generalize hs : sQueues c a b d x = rs at hret
  obtain ⟨o, a2, b2, d2⟩ := rs
  refine g_iconst (pc := 0) (v := (nI 4)) hX dX3_queues_0 (by decide) ?_
  refine g_iload_n (pc := 1) hX dX3_queues_1 rfl 1 rfl ?_
  refine g_imulN (pc := 2) (r := 4 * t) hX dX3_queues_2 (by first | rfl | omega) ?_
  refine g_istore_n (pc := 3) (lv' := [(3, .int (nI (4 * t))), (0, .ref m), (1, .int (nI t)), (2, .int (nI x))]) hX dX3_queues_3 rfl (by decide) rfl ?_
  refine g_aload_n (pc := 4) hX dX3_queues_4 rfl 1 rfl ?_
  refine g_iload_n (pc := 5) hX dX3_queues_5 rfl 0 rfl ?_
  refine g_iconst (pc := 6) (v := (nI 2)) hX dX3_queues_6 (by decide) ?_
  refine g_iaddN (pc := 7) (r := (4 * t) + 2) hX dX3_queues_7 (by first | rfl | omega) ?_
  refine g_iload_n (pc := 8) hX dX3_queues_8 rfl 3 rfl ?_
  refine g_ci (pc := 9) hX (wc := [(m, .inr (3, [.ref (am 0), .ref (am 1), .ref (am 2), .ref (am 3), .ref (am 4), .ref (am 5), .ref (am 6), .ref (am 7), .int rd, .int wr, .int (-1)])), (am 0, .inl (K.2.1, 2, .inl po)), (am 1, .inl (K.2.1, 2, .inl ca)), (am 2, .inl (K.2.1, 2, .inl go)), (am 3, .inl (K.2.1, 8, .inl le)), (am 4, .inl (K.2.1, 160, .inl pg)), (am 5, .inl (K.2.2.1, 128, .inl mk)), (am 6, .inl (K.2.2.1, 128, .inl we)), (am 7, .inl (K.2.1, 6, .inl co))]) (wr := []) (Wd' := fun u => [(m, .inr (3, [.ref (am 0), .ref (am 1), .ref (am 2), .ref (am 3), .ref (am 4), .ref (am 5), .ref (am 6), .ref (am 7), .int rd, .int wr, .int (-1)])), (am 0, .inl (K.2.1, 2, .inl po)), (am 1, .inl (K.2.1, 2, .inl ca)), (am 2, .inl (K.2.1, 2, .inl go)), (am 3, .inl (K.2.1, 8, .inl le)), (am 4, .inl (K.2.1, 160, .inl pg)), (am 5, .inl (K.2.2.1, 128, .inl mk)), (am 6, .inl (K.2.2.1, 128, .inl we)), (am 7, .inl (K.2.1, 6, .inl co))]) (g_goV (pc := 9) hX (As := [.int (nI ((4 * t) + 2)), .int (nI x)]) (stk := []) (wc := [(m, .inr (3, [.ref (am 0), .ref (am 1), .ref (am 2), .ref (am 3), .ref (am 4), .ref (am 5), .ref (am 6), .ref (am 7), .int rd, .int wr, .int (-1)])), (am 0, .inl (K.2.1, 2, .inl po)), (am 1, .inl (K.2.1, 2, .inl ca)), (am 2, .inl (K.2.1, 2, .inl go)), (am 3, .inl (K.2.1, 8, .inl le)), (am 4, .inl (K.2.1, 160, .inl pg)), (am 5, .inl (K.2.2.1, 128, .inl mk)), (am 6, .inl (K.2.2.1, 128, .inl we)), (am 7, .inl (K.2.1, 6, .inl co))]) (c_X3_isIn l K m am po ca go le pg mk we co rd wr (-1) (rr t a b d e RO) hR ((4 * t) + 2) (by omega) x hx) rfl rfl rfl gX3_queues_X3_isIn nX3_isInV rfl 0 rfl ⟨(Nat.le_of_ble_eq_true rfl), (Nat.le_of_ble_eq_true rfl)⟩ [0, 1, 2, 3, 4, 5, 6, 7, 8] rfl rfl rfl (Nat.le_of_ble_eq_true rfl) dX3_queues_9 ⟨(Nat.le_of_ble_eq_true rfl), (Nat.le_of_ble_eq_true rfl)⟩) [0, 1, 2, 3, 4, 5, 6, 7, 8] [] [0, 1, 2, 3, 4, 5, 6, 7, 8] rfl rfl rfl (by decide) rfl (fun _ => rfl) (fun r u h9 => ?_)
  obtain rfl := h9
  refine g_top (y := (bI (decide (x ∈ d)))) (by rw [rr_2]) ?_
  refine g_ifB_eq (pc := 12) (tgt := 28) hX dX3_queues_12 (by decide) (fun c12 => ?_) (fun c12 => ?_)
  · have hm2 : x ∉ d := of_decide_eq_false c12
    refine g_aload_n (pc := 28) hX dX3_queues_28 rfl 1 rfl ?_
    refine g_iload_n (pc := 29) hX dX3_queues_29 rfl 0 rfl ?_
    refine g_iload_n (pc := 30) hX dX3_queues_30 rfl 3 rfl ?_
    refine g_ci (pc := 31) hX (wc := [(m, .inr (3, [.ref (am 0), .ref (am 1), .ref (am 2), .ref (am 3), .ref (am 4), .ref (am 5), .ref (am 6), .ref (am 7), .int rd, .int wr, .int (-1)])), (am 0, .inl (K.2.1, 2, .inl po)), (am 1, .inl (K.2.1, 2, .inl ca)), (am 2, .inl (K.2.1, 2, .inl go)), (am 3, .inl (K.2.1, 8, .inl le)), (am 4, .inl (K.2.1, 160, .inl pg)), (am 5, .inl (K.2.2.1, 128, .inl mk)), (am 6, .inl (K.2.2.1, 128, .inl we)), (am 7, .inl (K.2.1, 6, .inl co))]) (wr := []) (Wd' := fun u => [(m, .inr (3, [.ref (am 0), .ref (am 1), .ref (am 2), .ref (am 3), .ref (am 4), .ref (am 5), .ref (am 6), .ref (am 7), .int rd, .int wr, .int (-1)])), (am 0, .inl (K.2.1, 2, .inl po)), (am 1, .inl (K.2.1, 2, .inl ca)), (am 2, .inl (K.2.1, 2, .inl go)), (am 3, .inl (K.2.1, 8, .inl le)), (am 4, .inl (K.2.1, 160, .inl pg)), (am 5, .inl (K.2.2.1, 128, .inl mk)), (am 6, .inl (K.2.2.1, 128, .inl we)), (am 7, .inl (K.2.1, 6, .inl co))]) (g_goV (pc := 31) hX (As := [.int (nI (4 * t)), .int (nI x)]) (stk := []) (wc := [(m, .inr (3, [.ref (am 0), .ref (am 1), .ref (am 2), .ref (am 3), .ref (am 4), .ref (am 5), .ref (am 6), .ref (am 7), .int rd, .int wr, .int (-1)])), (am 0, .inl (K.2.1, 2, .inl po)), (am 1, .inl (K.2.1, 2, .inl ca)), (am 2, .inl (K.2.1, 2, .inl go)), (am 3, .inl (K.2.1, 8, .inl le)), (am 4, .inl (K.2.1, 160, .inl pg)), (am 5, .inl (K.2.2.1, 128, .inl mk)), (am 6, .inl (K.2.2.1, 128, .inl we)), (am 7, .inl (K.2.1, 6, .inl co))]) (c_X3_isIn l K m am po ca go le pg mk we co rd wr (-1) (rr t a b d e RO) hR (4 * t) (by omega) x hx) rfl rfl rfl gX3_queues_X3_isIn nX3_isInV rfl 0 rfl ⟨(Nat.le_of_ble_eq_true rfl), (Nat.le_of_ble_eq_true rfl)⟩ [0, 1, 2, 3, 4, 5, 6, 7, 8] rfl rfl rfl (Nat.le_of_ble_eq_true rfl) dX3_queues_31 ⟨(Nat.le_of_ble_eq_true rfl), (Nat.le_of_ble_eq_true rfl)⟩) [0, 1, 2, 3, 4, 5, 6, 7, 8] [] [0, 1, 2, 3, 4, 5, 6, 7, 8] rfl rfl rfl (by decide) rfl (fun _ => rfl) (fun r u h31 => ?_)
    obtain rfl := h31
    refine g_top (y := (bI (decide (x ∈ a)))) (by rw [rr_0]) ?_
    refine g_ifB_eq (pc := 34) (tgt := 39) hX dX3_queues_34 (by decide) (fun c34 => ?_) (fun c34 => ?_)
    · have hm0 : x ∉ a := of_decide_eq_false c34
      refine g_iload_n (pc := 39) hX dX3_queues_39 rfl 0 rfl ?_
      refine g_istore (pc := 40) (lv' := [(4, .int (nI (4 * t))), (3, .int (nI (4 * t))), (0, .ref m), (1, .int (nI t)), (2, .int (nI x))]) hX dX3_queues_40 (by decide) rfl ?_
      refine g_aload_n (pc := 42) hX dX3_queues_42 rfl 2 rfl ?_
      refine g_iload_n (pc := 43) hX dX3_queues_43 rfl 1 rfl ?_
      refine g_iconst (pc := 44) (v := (nI 1)) hX dX3_queues_44 (by decide) ?_
      refine g_iaddN (pc := 45) (r := (4 * t) + 1) hX dX3_queues_45 (by first | rfl | omega) ?_
      refine g_iload_n (pc := 46) hX dX3_queues_46 rfl 4 rfl ?_
      refine g_ci (pc := 47) hX (wc := [(m, .inr (3, [.ref (am 0), .ref (am 1), .ref (am 2), .ref (am 3), .ref (am 4), .ref (am 5), .ref (am 6), .ref (am 7), .int rd, .int wr, .int (-1)])), (am 0, .inl (K.2.1, 2, .inl po)), (am 1, .inl (K.2.1, 2, .inl ca)), (am 2, .inl (K.2.1, 2, .inl go)), (am 3, .inl (K.2.1, 8, .inl le)), (am 4, .inl (K.2.1, 160, .inl pg)), (am 5, .inl (K.2.2.1, 128, .inl mk)), (am 6, .inl (K.2.2.1, 128, .inl we)), (am 7, .inl (K.2.1, 6, .inl co))]) (wr := []) (Wd' := fun u => [(m, .inr (3, [.ref (am 0), .ref (am 1), .ref (am 2), .ref (am 3), .ref (am 4), .ref (am 5), .ref (am 6), .ref (am 7), .int rd, .int wr, .int (-1)])), (am 0, .inl (K.2.1, 2, .inl po)), (am 1, .inl (K.2.1, 2, .inl ca)), (am 2, .inl (K.2.1, 2, .inl go)), (am 3, .inl (K.2.1, 8, .inl le)), (am 4, .inl (K.2.1, 160, .inl pg)), (am 5, .inl (K.2.2.1, 128, .inl mk)), (am 6, .inl (K.2.2.1, 128, .inl we)), (am 7, .inl (K.2.1, 6, .inl co))]) (g_goV (pc := 47) hX (As := [.int (nI ((4 * t) + 1)), .int (nI x)]) (stk := []) (wc := [(m, .inr (3, [.ref (am 0), .ref (am 1), .ref (am 2), .ref (am 3), .ref (am 4), .ref (am 5), .ref (am 6), .ref (am 7), .int rd, .int wr, .int (-1)])), (am 0, .inl (K.2.1, 2, .inl po)), (am 1, .inl (K.2.1, 2, .inl ca)), (am 2, .inl (K.2.1, 2, .inl go)), (am 3, .inl (K.2.1, 8, .inl le)), (am 4, .inl (K.2.1, 160, .inl pg)), (am 5, .inl (K.2.2.1, 128, .inl mk)), (am 6, .inl (K.2.2.1, 128, .inl we)), (am 7, .inl (K.2.1, 6, .inl co))]) (c_X3_isIn l K m am po ca go le pg mk we co rd wr (-1) (rr t a b d e RO) hR ((4 * t) + 1) (by omega) x hx) rfl rfl rfl gX3_queues_X3_isIn nX3_isInV rfl 0 rfl ⟨(Nat.le_of_ble_eq_true rfl), (Nat.le_of_ble_eq_true rfl)⟩ [0, 1, 2, 3, 4, 5, 6, 7, 8] rfl rfl rfl (Nat.le_of_ble_eq_true rfl) dX3_queues_47 ⟨(Nat.le_of_ble_eq_true rfl), (Nat.le_of_ble_eq_true rfl)⟩) [0, 1, 2, 3, 4, 5, 6, 7, 8] [] [0, 1, 2, 3, 4, 5, 6, 7, 8] rfl rfl rfl (by decide) rfl (fun _ => rfl) (fun r u h47 => ?_)
      obtain rfl := h47
      refine g_top (y := (bI (decide (x ∈ b)))) (by rw [rr_1]) ?_
      refine g_ifB_eq (pc := 50) (tgt := 66) hX dX3_queues_50 (by decide) (fun c50 => ?_) (fun c50 => ?_)
      · have hm1 : x ∉ b := of_decide_eq_false c50
        refine g_aload_n (pc := 66) hX dX3_queues_66 rfl 2 rfl ?_
        refine g_iload_n (pc := 67) hX dX3_queues_67 rfl 3 rfl ?_
        refine g_cv (pc := 68) hX (wc := [(m, .inr (3, [.ref (am 0), .ref (am 1), .ref (am 2), .ref (am 3), .ref (am 4), .ref (am 5), .ref (am 6), .ref (am 7), .int rd, .int wr, .int (-1)])), (am 0, .inl (K.2.1, 2, .inl po)), (am 1, .inl (K.2.1, 2, .inl ca)), (am 2, .inl (K.2.1, 2, .inl go)), (am 3, .inl (K.2.1, 8, .inl le)), (am 4, .inl (K.2.1, 160, .inl pg)), (am 5, .inl (K.2.2.1, 128, .inl mk)), (am 6, .inl (K.2.2.1, 128, .inl we)), (am 7, .inl (K.2.1, 6, .inl co))]) (wr := []) (Wd' := fun u68 => [(m, .inr (3, [.ref (am 0), .ref (am 1), .ref (am 2), .ref (am 3), .ref (am 4), .ref (am 5), .ref (am 6), .ref (am 7), .int rd, .int wr, .int u68.2.2])), (am 0, .inl (K.2.1, 2, .inl po)), (am 1, .inl (K.2.1, 2, .inl ca)), (am 2, .inl (K.2.1, 2, .inl go)), (am 3, .inl (K.2.1, 8, .inl u68.1)), (am 4, .inl (K.2.1, 160, .inl u68.2.1)), (am 5, .inl (K.2.2.1, 128, .inl mk)), (am 6, .inl (K.2.2.1, 128, .inl we)), (am 7, .inl (K.2.1, 6, .inl co))]) (g_goV (pc := 68) hX (As := [.int (nI t)]) (stk := []) (wc := [(m, .inr (3, [.ref (am 0), .ref (am 1), .ref (am 2), .ref (am 3), .ref (am 4), .ref (am 5), .ref (am 6), .ref (am 7), .int rd, .int wr, .int (-1)])), (am 0, .inl (K.2.1, 2, .inl po)), (am 1, .inl (K.2.1, 2, .inl ca)), (am 2, .inl (K.2.1, 2, .inl go)), (am 3, .inl (K.2.1, 8, .inl le)), (am 4, .inl (K.2.1, 160, .inl pg)), (am 5, .inl (K.2.2.1, 128, .inl mk)), (am 6, .inl (K.2.2.1, 128, .inl we)), (am 7, .inl (K.2.1, 6, .inl co))]) (c_X3_makeRoom l K m am po ca go le pg mk we co rd wr t ht c a b d e RO hR hca hc1 hc2 (by omega)) rfl rfl rfl gX3_queues_X3_makeRoom nX3_makeRoomV rfl 0 rfl ⟨(Nat.le_of_ble_eq_true rfl), (Nat.le_of_ble_eq_true rfl)⟩ [0, 1, 2, 3, 4, 5, 6, 7, 8] rfl rfl rfl (Nat.le_of_ble_eq_true rfl) dX3_queues_68 ⟨(Nat.le_of_ble_eq_true rfl), (Nat.le_of_ble_eq_true rfl)⟩) [0, 1, 2, 3, 4, 5, 6, 7, 8] [] [0, 1, 2, 3, 4, 5, 6, 7, 8] rfl rfl rfl (by decide) rfl (fun _ => rfl) (fun u68 h68 => ?_)
        obtain ⟨hR68, hvi⟩ := h68
        have hql := sQroom_lt (c := c) (a := a) (b := b) (d := d) hc1 had
        refine g_aload_n (pc := 71) hX dX3_queues_71 rfl 2 rfl ?_
        refine g_iload (pc := 72) hX dX3_queues_72 0 rfl ?_
        refine g_iload_n (pc := 74) hX dX3_queues_74 rfl 4 rfl ?_
        refine g_cv (pc := 75) hX (wc := [(m, .inr (3, [.ref (am 0), .ref (am 1), .ref (am 2), .ref (am 3), .ref (am 4), .ref (am 5), .ref (am 6), .ref (am 7), .int rd, .int wr, .int u68.2.2])), (am 0, .inl (K.2.1, 2, .inl po)), (am 1, .inl (K.2.1, 2, .inl ca)), (am 2, .inl (K.2.1, 2, .inl go)), (am 3, .inl (K.2.1, 8, .inl u68.1)), (am 4, .inl (K.2.1, 160, .inl u68.2.1)), (am 5, .inl (K.2.2.1, 128, .inl mk)), (am 6, .inl (K.2.2.1, 128, .inl we)), (am 7, .inl (K.2.1, 6, .inl co))]) (wr := []) (Wd' := fun u75 => [(m, .inr (3, [.ref (am 0), .ref (am 1), .ref (am 2), .ref (am 3), .ref (am 4), .ref (am 5), .ref (am 6), .ref (am 7), .int rd, .int wr, .int u68.2.2])), (am 0, .inl (K.2.1, 2, .inl po)), (am 1, .inl (K.2.1, 2, .inl ca)), (am 2, .inl (K.2.1, 2, .inl go)), (am 3, .inl (K.2.1, 8, .inl u75.1)), (am 4, .inl (K.2.1, 160, .inl u75.2)), (am 5, .inl (K.2.2.1, 128, .inl mk)), (am 6, .inl (K.2.2.1, 128, .inl we)), (am 7, .inl (K.2.1, 6, .inl co))]) (g_goV (pc := 75) hX (As := [.int (nI (4 * t)), .int (nI x)]) (stk := []) (wc := [(m, .inr (3, [.ref (am 0), .ref (am 1), .ref (am 2), .ref (am 3), .ref (am 4), .ref (am 5), .ref (am 6), .ref (am 7), .int rd, .int wr, .int u68.2.2])), (am 0, .inl (K.2.1, 2, .inl po)), (am 1, .inl (K.2.1, 2, .inl ca)), (am 2, .inl (K.2.1, 2, .inl go)), (am 3, .inl (K.2.1, 8, .inl u68.1)), (am 4, .inl (K.2.1, 160, .inl u68.2.1)), (am 5, .inl (K.2.2.1, 128, .inl mk)), (am 6, .inl (K.2.2.1, 128, .inl we)), (am 7, .inl (K.2.1, 6, .inl co))]) (c_X3_toHead l K m am po ca go u68.1 u68.2.1 mk we co rd wr u68.2.2 (rr t ((sQroom c a b d).2.1) ((sQroom c a b d).2.2.1) ((sQroom c a b d).2.2.2) e RO) hR68 (4 * t) (by omega) x hx (by rw [rr_0]; show ((sQroom c a b d).2.1).length + 1 ≤ 20; omega)) rfl rfl rfl gX3_queues_X3_toHead nX3_toHeadV rfl 0 rfl ⟨(Nat.le_of_ble_eq_true rfl), (Nat.le_of_ble_eq_true rfl)⟩ [0, 1, 2, 3, 4, 5, 6, 7, 8] rfl rfl rfl (Nat.le_of_ble_eq_true rfl) dX3_queues_75 ⟨(Nat.le_of_ble_eq_true rfl), (Nat.le_of_ble_eq_true rfl)⟩) [0, 1, 2, 3, 4, 5, 6, 7, 8] [] [0, 1, 2, 3, 4, 5, 6, 7, 8] rfl rfl rfl (by decide) rfl (fun _ => rfl) (fun u75 h75 => ?_)
        have hR75 := h75
        rw [rr_0, rr_u0] at hR75
        refine g_iconst (pc := 78) (v := (nI 0)) hX dX3_queues_78 (by decide) ?_
        refine g_top (y := bI false) (by decide) ?_
        rw [show sQueues c a b d x = ((sQroom c a b d).1, x :: (sQroom c a b d).2.1, (sQroom c a b d).2.2.1, (sQroom c a b d).2.2.2) from by unfold sQueues; rw [if_neg hm2, if_neg hm0, if_neg hm1]] at hs
        cases hs
        exact hret (v := false) (u := (u75.1, u75.2, u68.2.2)) dX3_queues_79 (⟨by unfold sHolds; rw [if_pos rfl, decide_eq_false (p := x ∈ d) hm2, decide_eq_false hm0]; rfl, hR75, hvi⟩) rfl
      · have hm1 : x ∈ b := of_decide_eq_true c50
        have hm1l := rm_len hm1
        refine g_aload_n (pc := 53) hX dX3_queues_53 rfl 2 rfl ?_
        refine g_iload_n (pc := 54) hX dX3_queues_54 rfl 1 rfl ?_
        refine g_iconst (pc := 55) (v := (nI 1)) hX dX3_queues_55 (by decide) ?_
        refine g_iaddN (pc := 56) (r := (4 * t) + 1) hX dX3_queues_56 (by first | rfl | omega) ?_
        refine g_iload_n (pc := 57) hX dX3_queues_57 rfl 4 rfl ?_
        refine g_cv (pc := 58) hX (wc := [(m, .inr (3, [.ref (am 0), .ref (am 1), .ref (am 2), .ref (am 3), .ref (am 4), .ref (am 5), .ref (am 6), .ref (am 7), .int rd, .int wr, .int (-1)])), (am 0, .inl (K.2.1, 2, .inl po)), (am 1, .inl (K.2.1, 2, .inl ca)), (am 2, .inl (K.2.1, 2, .inl go)), (am 3, .inl (K.2.1, 8, .inl le)), (am 4, .inl (K.2.1, 160, .inl pg)), (am 5, .inl (K.2.2.1, 128, .inl mk)), (am 6, .inl (K.2.2.1, 128, .inl we)), (am 7, .inl (K.2.1, 6, .inl co))]) (wr := []) (Wd' := fun u58 => [(m, .inr (3, [.ref (am 0), .ref (am 1), .ref (am 2), .ref (am 3), .ref (am 4), .ref (am 5), .ref (am 6), .ref (am 7), .int rd, .int wr, .int (-1)])), (am 0, .inl (K.2.1, 2, .inl po)), (am 1, .inl (K.2.1, 2, .inl ca)), (am 2, .inl (K.2.1, 2, .inl go)), (am 3, .inl (K.2.1, 8, .inl u58.1)), (am 4, .inl (K.2.1, 160, .inl u58.2)), (am 5, .inl (K.2.2.1, 128, .inl mk)), (am 6, .inl (K.2.2.1, 128, .inl we)), (am 7, .inl (K.2.1, 6, .inl co))]) (g_goV (pc := 58) hX (As := [.int (nI ((4 * t) + 1)), .int (nI x)]) (stk := []) (wc := [(m, .inr (3, [.ref (am 0), .ref (am 1), .ref (am 2), .ref (am 3), .ref (am 4), .ref (am 5), .ref (am 6), .ref (am 7), .int rd, .int wr, .int (-1)])), (am 0, .inl (K.2.1, 2, .inl po)), (am 1, .inl (K.2.1, 2, .inl ca)), (am 2, .inl (K.2.1, 2, .inl go)), (am 3, .inl (K.2.1, 8, .inl le)), (am 4, .inl (K.2.1, 160, .inl pg)), (am 5, .inl (K.2.2.1, 128, .inl mk)), (am 6, .inl (K.2.2.1, 128, .inl we)), (am 7, .inl (K.2.1, 6, .inl co))]) (c_X3_takeOut l K m am po ca go le pg mk we co rd wr (-1) (rr t a b d e RO) hR ((4 * t) + 1) (by omega) x hx (by rw [rr_1]; exact hm1)) rfl rfl rfl gX3_queues_X3_takeOut nX3_takeOutV rfl 0 rfl ⟨(Nat.le_of_ble_eq_true rfl), (Nat.le_of_ble_eq_true rfl)⟩ [0, 1, 2, 3, 4, 5, 6, 7, 8] rfl rfl rfl (Nat.le_of_ble_eq_true rfl) dX3_queues_58 ⟨(Nat.le_of_ble_eq_true rfl), (Nat.le_of_ble_eq_true rfl)⟩) [0, 1, 2, 3, 4, 5, 6, 7, 8] [] [0, 1, 2, 3, 4, 5, 6, 7, 8] rfl rfl rfl (by decide) rfl (fun _ => rfl) (fun u58 h58 => ?_)
        have hR58 := h58
        rw [rr_1, rr_u1] at hR58
        refine g_iload_n (pc := 61) hX dX3_queues_61 rfl 1 rfl ?_
        refine g_iconst (pc := 62) (v := (nI 2)) hX dX3_queues_62 (by decide) ?_
        refine g_iaddN (pc := 63) (r := (4 * t) + 2) hX dX3_queues_63 (by first | rfl | omega) ?_
        refine g_istore (pc := 64) (lv' := [(4, .int (nI ((4 * t) + 2))), (3, .int (nI (4 * t))), (0, .ref m), (1, .int (nI t)), (2, .int (nI x))]) hX dX3_queues_64 (by decide) rfl ?_
        refine g_aload_n (pc := 66) hX dX3_queues_66 rfl 2 rfl ?_
        refine g_iload_n (pc := 67) hX dX3_queues_67 rfl 3 rfl ?_
        refine g_cv (pc := 68) hX (wc := [(m, .inr (3, [.ref (am 0), .ref (am 1), .ref (am 2), .ref (am 3), .ref (am 4), .ref (am 5), .ref (am 6), .ref (am 7), .int rd, .int wr, .int (-1)])), (am 0, .inl (K.2.1, 2, .inl po)), (am 1, .inl (K.2.1, 2, .inl ca)), (am 2, .inl (K.2.1, 2, .inl go)), (am 3, .inl (K.2.1, 8, .inl u58.1)), (am 4, .inl (K.2.1, 160, .inl u58.2)), (am 5, .inl (K.2.2.1, 128, .inl mk)), (am 6, .inl (K.2.2.1, 128, .inl we)), (am 7, .inl (K.2.1, 6, .inl co))]) (wr := []) (Wd' := fun u68 => [(m, .inr (3, [.ref (am 0), .ref (am 1), .ref (am 2), .ref (am 3), .ref (am 4), .ref (am 5), .ref (am 6), .ref (am 7), .int rd, .int wr, .int u68.2.2])), (am 0, .inl (K.2.1, 2, .inl po)), (am 1, .inl (K.2.1, 2, .inl ca)), (am 2, .inl (K.2.1, 2, .inl go)), (am 3, .inl (K.2.1, 8, .inl u68.1)), (am 4, .inl (K.2.1, 160, .inl u68.2.1)), (am 5, .inl (K.2.2.1, 128, .inl mk)), (am 6, .inl (K.2.2.1, 128, .inl we)), (am 7, .inl (K.2.1, 6, .inl co))]) (g_goV (pc := 68) hX (As := [.int (nI t)]) (stk := []) (wc := [(m, .inr (3, [.ref (am 0), .ref (am 1), .ref (am 2), .ref (am 3), .ref (am 4), .ref (am 5), .ref (am 6), .ref (am 7), .int rd, .int wr, .int (-1)])), (am 0, .inl (K.2.1, 2, .inl po)), (am 1, .inl (K.2.1, 2, .inl ca)), (am 2, .inl (K.2.1, 2, .inl go)), (am 3, .inl (K.2.1, 8, .inl u58.1)), (am 4, .inl (K.2.1, 160, .inl u58.2)), (am 5, .inl (K.2.2.1, 128, .inl mk)), (am 6, .inl (K.2.2.1, 128, .inl we)), (am 7, .inl (K.2.1, 6, .inl co))]) (c_X3_makeRoom l K m am po ca go u58.1 u58.2 mk we co rd wr t ht c a (rm b x) d e RO hR58 hca hc1 hc2 (by omega)) rfl rfl rfl gX3_queues_X3_makeRoom nX3_makeRoomV rfl 0 rfl ⟨(Nat.le_of_ble_eq_true rfl), (Nat.le_of_ble_eq_true rfl)⟩ [0, 1, 2, 3, 4, 5, 6, 7, 8] rfl rfl rfl (Nat.le_of_ble_eq_true rfl) dX3_queues_68 ⟨(Nat.le_of_ble_eq_true rfl), (Nat.le_of_ble_eq_true rfl)⟩) [0, 1, 2, 3, 4, 5, 6, 7, 8] [] [0, 1, 2, 3, 4, 5, 6, 7, 8] rfl rfl rfl (by decide) rfl (fun _ => rfl) (fun u68 h68 => ?_)
        obtain ⟨hR68, hvi⟩ := h68
        have hql := sQroom_lt (c := c) (a := a) (b := rm b x) (d := d) hc1 had
        refine g_aload_n (pc := 71) hX dX3_queues_71 rfl 2 rfl ?_
        refine g_iload (pc := 72) hX dX3_queues_72 0 rfl ?_
        refine g_iload_n (pc := 74) hX dX3_queues_74 rfl 4 rfl ?_
        refine g_cv (pc := 75) hX (wc := [(m, .inr (3, [.ref (am 0), .ref (am 1), .ref (am 2), .ref (am 3), .ref (am 4), .ref (am 5), .ref (am 6), .ref (am 7), .int rd, .int wr, .int u68.2.2])), (am 0, .inl (K.2.1, 2, .inl po)), (am 1, .inl (K.2.1, 2, .inl ca)), (am 2, .inl (K.2.1, 2, .inl go)), (am 3, .inl (K.2.1, 8, .inl u68.1)), (am 4, .inl (K.2.1, 160, .inl u68.2.1)), (am 5, .inl (K.2.2.1, 128, .inl mk)), (am 6, .inl (K.2.2.1, 128, .inl we)), (am 7, .inl (K.2.1, 6, .inl co))]) (wr := []) (Wd' := fun u75 => [(m, .inr (3, [.ref (am 0), .ref (am 1), .ref (am 2), .ref (am 3), .ref (am 4), .ref (am 5), .ref (am 6), .ref (am 7), .int rd, .int wr, .int u68.2.2])), (am 0, .inl (K.2.1, 2, .inl po)), (am 1, .inl (K.2.1, 2, .inl ca)), (am 2, .inl (K.2.1, 2, .inl go)), (am 3, .inl (K.2.1, 8, .inl u75.1)), (am 4, .inl (K.2.1, 160, .inl u75.2)), (am 5, .inl (K.2.2.1, 128, .inl mk)), (am 6, .inl (K.2.2.1, 128, .inl we)), (am 7, .inl (K.2.1, 6, .inl co))]) (g_goV (pc := 75) hX (As := [.int (nI ((4 * t) + 2)), .int (nI x)]) (stk := []) (wc := [(m, .inr (3, [.ref (am 0), .ref (am 1), .ref (am 2), .ref (am 3), .ref (am 4), .ref (am 5), .ref (am 6), .ref (am 7), .int rd, .int wr, .int u68.2.2])), (am 0, .inl (K.2.1, 2, .inl po)), (am 1, .inl (K.2.1, 2, .inl ca)), (am 2, .inl (K.2.1, 2, .inl go)), (am 3, .inl (K.2.1, 8, .inl u68.1)), (am 4, .inl (K.2.1, 160, .inl u68.2.1)), (am 5, .inl (K.2.2.1, 128, .inl mk)), (am 6, .inl (K.2.2.1, 128, .inl we)), (am 7, .inl (K.2.1, 6, .inl co))]) (c_X3_toHead l K m am po ca go u68.1 u68.2.1 mk we co rd wr u68.2.2 (rr t ((sQroom c a (rm b x) d).2.1) ((sQroom c a (rm b x) d).2.2.1) ((sQroom c a (rm b x) d).2.2.2) e RO) hR68 ((4 * t) + 2) (by omega) x hx (by rw [rr_2]; show ((sQroom c a (rm b x) d).2.2.2).length + 1 ≤ 20; omega)) rfl rfl rfl gX3_queues_X3_toHead nX3_toHeadV rfl 0 rfl ⟨(Nat.le_of_ble_eq_true rfl), (Nat.le_of_ble_eq_true rfl)⟩ [0, 1, 2, 3, 4, 5, 6, 7, 8] rfl rfl rfl (Nat.le_of_ble_eq_true rfl) dX3_queues_75 ⟨(Nat.le_of_ble_eq_true rfl), (Nat.le_of_ble_eq_true rfl)⟩) [0, 1, 2, 3, 4, 5, 6, 7, 8] [] [0, 1, 2, 3, 4, 5, 6, 7, 8] rfl rfl rfl (by decide) rfl (fun _ => rfl) (fun u75 h75 => ?_)
        have hR75 := h75
        rw [rr_2, rr_u2] at hR75
        refine g_iconst (pc := 78) (v := (nI 0)) hX dX3_queues_78 (by decide) ?_
        refine g_top (y := bI false) (by decide) ?_
        rw [show sQueues c a b d x = ((sQroom c a (rm b x) d).1, (sQroom c a (rm b x) d).2.1, (sQroom c a (rm b x) d).2.2.1, x :: (sQroom c a (rm b x) d).2.2.2) from by unfold sQueues; rw [if_neg hm2, if_neg hm0, if_pos hm1]] at hs
        cases hs
        exact hret (v := false) (u := (u75.1, u75.2, u68.2.2)) dX3_queues_79 (⟨by unfold sHolds; rw [if_pos rfl, decide_eq_false (p := x ∈ d) hm2, decide_eq_false hm0]; rfl, hR75, hvi⟩) rfl
    · have hm0 : x ∈ a := of_decide_eq_true c34
      refine g_iconst (pc := 37) (v := (nI 1)) hX dX3_queues_37 (by decide) ?_
      refine g_top (y := bI true) (by decide) ?_
      rw [show sQueues c a b d x = (none, a, b, d) from by unfold sQueues; rw [if_neg hm2, if_pos hm0]] at hs
      cases hs
      exact hret (v := true) (u := (le, pg, (-1))) dX3_queues_38 (⟨by unfold sHolds; rw [decide_eq_true hm0]; rfl, hR, rfl⟩) rfl
  · have hm2 : x ∈ d := of_decide_eq_true c12
    have hm2l := rm_len hm2
    refine g_aload_n (pc := 15) hX dX3_queues_15 rfl 1 rfl ?_
    refine g_iload_n (pc := 16) hX dX3_queues_16 rfl 0 rfl ?_
    refine g_iconst (pc := 17) (v := (nI 2)) hX dX3_queues_17 (by decide) ?_
    refine g_iaddN (pc := 18) (r := (4 * t) + 2) hX dX3_queues_18 (by first | rfl | omega) ?_
    refine g_iload_n (pc := 19) hX dX3_queues_19 rfl 0 rfl ?_
    refine g_iconst (pc := 20) (v := (nI 2)) hX dX3_queues_20 (by decide) ?_
    refine g_iaddN (pc := 21) (r := (4 * t) + 2) hX dX3_queues_21 (by first | rfl | omega) ?_
    refine g_iload_n (pc := 22) hX dX3_queues_22 rfl 3 rfl ?_
    refine g_cv (pc := 23) hX (wc := [(m, .inr (3, [.ref (am 0), .ref (am 1), .ref (am 2), .ref (am 3), .ref (am 4), .ref (am 5), .ref (am 6), .ref (am 7), .int rd, .int wr, .int (-1)])), (am 0, .inl (K.2.1, 2, .inl po)), (am 1, .inl (K.2.1, 2, .inl ca)), (am 2, .inl (K.2.1, 2, .inl go)), (am 3, .inl (K.2.1, 8, .inl le)), (am 4, .inl (K.2.1, 160, .inl pg)), (am 5, .inl (K.2.2.1, 128, .inl mk)), (am 6, .inl (K.2.2.1, 128, .inl we)), (am 7, .inl (K.2.1, 6, .inl co))]) (wr := []) (Wd' := fun u23 => [(m, .inr (3, [.ref (am 0), .ref (am 1), .ref (am 2), .ref (am 3), .ref (am 4), .ref (am 5), .ref (am 6), .ref (am 7), .int rd, .int wr, .int (-1)])), (am 0, .inl (K.2.1, 2, .inl po)), (am 1, .inl (K.2.1, 2, .inl ca)), (am 2, .inl (K.2.1, 2, .inl go)), (am 3, .inl (K.2.1, 8, .inl u23.1)), (am 4, .inl (K.2.1, 160, .inl u23.2)), (am 5, .inl (K.2.2.1, 128, .inl mk)), (am 6, .inl (K.2.2.1, 128, .inl we)), (am 7, .inl (K.2.1, 6, .inl co))]) (g_goV (pc := 23) hX (As := [.int (nI ((4 * t) + 2)), .int (nI ((4 * t) + 2)), .int (nI x)]) (stk := []) (wc := [(m, .inr (3, [.ref (am 0), .ref (am 1), .ref (am 2), .ref (am 3), .ref (am 4), .ref (am 5), .ref (am 6), .ref (am 7), .int rd, .int wr, .int (-1)])), (am 0, .inl (K.2.1, 2, .inl po)), (am 1, .inl (K.2.1, 2, .inl ca)), (am 2, .inl (K.2.1, 2, .inl go)), (am 3, .inl (K.2.1, 8, .inl le)), (am 4, .inl (K.2.1, 160, .inl pg)), (am 5, .inl (K.2.2.1, 128, .inl mk)), (am 6, .inl (K.2.2.1, 128, .inl we)), (am 7, .inl (K.2.1, 6, .inl co))]) (c_X3_move l K m am po ca go le pg mk we co rd wr (-1) (rr t a b d e RO) hR ((4 * t) + 2) ((4 * t) + 2) (by omega) (by omega) x hx (by rw [rr_2]; exact hm2) (by rw [rr_2, rr_u2, rr_2]; show (rm d x).length + 1 ≤ 20; omega)) rfl rfl rfl gX3_queues_X3_move nX3_moveV rfl 0 rfl ⟨(Nat.le_of_ble_eq_true rfl), (Nat.le_of_ble_eq_true rfl)⟩ [0, 1, 2, 3, 4, 5, 6, 7, 8] rfl rfl rfl (Nat.le_of_ble_eq_true rfl) dX3_queues_23 ⟨(Nat.le_of_ble_eq_true rfl), (Nat.le_of_ble_eq_true rfl)⟩) [0, 1, 2, 3, 4, 5, 6, 7, 8] [] [0, 1, 2, 3, 4, 5, 6, 7, 8] rfl rfl rfl (by decide) rfl (fun _ => rfl) (fun u23 h23 => ?_)
    have hR23 := h23
    rw [rr_2, rr_u2, rr_2, rr_u2] at hR23
    refine g_iconst (pc := 26) (v := (nI 1)) hX dX3_queues_26 (by decide) ?_
    refine g_top (y := bI true) (by decide) ?_
    rw [show sQueues c a b d x = (none, a, b, x :: rm d x) from if_pos hm2] at hs
    cases hs
    exact hret (v := true) (u := (u23.1, u23.2, (-1))) dX3_queues_27 (⟨by unfold sHolds; rw [if_pos rfl, decide_eq_true (p := x ∈ d) hm2, Bool.or_true], hR23, rfl⟩) rfl
abbrev rmX3_greater : Room := { frames := 0, cells := 0, slots := 0, locals := 0 }
set_option maxHeartbeats 4000000 in
set_option maxRecDepth 100000 in
theorem c_X3_greater (l : Launch) (K : gT) (x y : Int32) : Ci l yX3_greater wsX3_greater rmX3_greater K [.int x, .int y] [] (fun (r : Int32) (u : Unit) => r = if y < x then x else y) (fun u => []) 0 0 := by
  refine m_i (cc := cX3_greater) (own := RX3) (maxL := 2) (lv0 := [(0, .int x), (1, .int y)]) (by decide) rfl rfl (Nat.le_of_ble_eq_true rfl) rfl ?_
  intro X hX hin hret
  refine g_iload_n (pc := 0) hX dX3_greater_0 rfl 0 rfl ?_
  refine g_iload_n (pc := 1) hX dX3_greater_1 rfl 1 rfl ?_
  refine g_icmp_le (pc := 2) (tgt := 9) hX dX3_greater_2 (by decide) (fun c2 => ?_) (fun c2 => ?_)
  · refine g_iload_n (pc := 9) hX dX3_greater_9 rfl 1 rfl ?_
    exact hret (u := ()) dX3_greater_10 (by rw [if_neg (Int32.not_lt.mpr c2)]) rfl
  · refine g_iload_n (pc := 5) hX dX3_greater_5 rfl 0 rfl ?_
    refine g_goto (pc := 6) (tgt := 10) hX dX3_greater_6 (by decide) ?_
    exact hret (u := ()) dX3_greater_10 (by rw [if_pos (Int32.not_le.mp c2)]) rfl
theorem mm_max2 {a b : Nat} (ha : a < 2 ^ 31) (hb : b < 2 ^ 31) : (if nI b < nI a then nI a else nI b) = nI (max a b) := by
  by_cases h : b < a
  · rw [if_pos ((nI_ltI hb ha).mpr h), Nat.max_eq_left (by omega)]
  · rw [if_neg (fun q => h ((nI_ltI hb ha).mp q)), Nat.max_eq_right (by omega)]
theorem mm_sub2 {g s : Nat} (hg : g < 2 ^ 30) (hs : s < 2 ^ 30) : (if nI g - nI s < nI 0 then nI 0 else nI g - nI s) = nI (g - s) := by
  by_cases h : s ≤ g
  · have e : nI g - nI s = nI (g - s) := pk_sub h
    rw [e, if_neg (nI_nlt (by omega) (by omega))]
  · have e : nI g - nI s < nI 0 := by
      rw [Int32.lt_iff_toInt_lt, pk_sub_toInt hg hs, nI_toInt (by omega)]
      omega
    rw [if_pos e, show g - s = 0 by omega]
abbrev rmX3_putOut : Room := { frames := 1, cells := 0, slots := 0, locals := 23 }
theorem flX3_putOut_19 : Cond.fieldLink RX3 19 "TwoTierCacheModel" "lengths" "[I" ∈ wsX3_putOut := by decide +kernel
theorem inX3_putOut_X3 : ∀ w ∈ u_ws RX3 TX3 11, w ∈ wsX3_putOut := by decide +kernel
theorem flX3_putOut_65 : Cond.fieldLink RX3 65 "TwoTierCacheModel" "victim" "I" ∈ wsX3_putOut := by decide +kernel
theorem flX3_putOut_16 : Cond.fieldLink RX3 16 "TwoTierCacheModel" "goals" "[I" ∈ wsX3_putOut := by decide +kernel
set_option maxHeartbeats 4000000 in
set_option maxRecDepth 100000 in
/-- putOut -/
theorem c_X3_putOut (l : Launch) (K : gT) (m : Nat) (am : Nat → Nat) (po ca go le pg mk we co : Nat → Int32) (rd wr vi : Int32) (t : Nat) (ht : t < 2) (c g : Nat) (a b d e : List Nat) (RO : Nat → List Nat) (hR : rowsR le pg (rr t a b d e RO)) (hca : ca t = nI c) (hgo : go t = nI g) (hg : g ≤ 16) (f3 : Bool) (hb : sFirst g f3 a = false → 0 < b.length) (hd : d.length ≤ 16) (he : e.length ≤ 16) : Cv l yX3_putOut wsX3_putOut rmX3_putOut K [.ref m, .int (nI t), .int (bI f3)] (mW K m am po ca go le pg mk we co rd wr vi) (fun (u : (Nat → Int32) × (Nat → Int32) × Int32) => rowsR u.1 u.2.1 (rr t (sOut g f3 a b d e).2.1 (sOut g f3 a b d e).2.2.1 (sOut g f3 a b d e).2.2.2.1 (sOut g f3 a b d e).2.2.2.2 RO) ∧ u.2.2 = nI (sOut g f3 a b d e).1) (fun u => mW K m am po ca go u.1 u.2.1 mk we co rd wr u.2.2) 0 0 := by
  refine m_v (cc := cX3_putOut) (own := RX3) (maxL := 6) (lv0 := [(0, .ref m), (1, .int (nI t)), (2, .int (bI f3))]) (by decide) rfl rfl (Nat.le_of_ble_eq_true rfl) rfl ?_
  intro X hX hin hret
  refine g_ws (ws' := [(m, .inr (3, [.ref (am 0), .ref (am 1), .ref (am 2), .ref (am 3), .ref (am 4), .ref (am 5), .ref (am 6), .ref (am 7), .int rd, .int wr, .int vi])), (am 0, .inl (K.2.1, 2, .inl po)), (am 1, .inl (K.2.1, 2, .inl ca)), (am 2, .inl (K.2.1, 2, .inl go)), (am 3, .inl (K.2.1, 8, .inl le)), (am 4, .inl (K.2.1, 160, .inl pg)), (am 5, .inl (K.2.2.1, 128, .inl mk)), (am 6, .inl (K.2.2.1, 128, .inl we)), (am 7, .inl (K.2.1, 6, .inl co))]) rfl ?_
  have la := (rr_l0 hR ht).2.1
  have lb := (rr_l1 hR ht).2.1
  have ld := (rr_l2 hR ht).2.1
  have lle := (rr_l3 hR ht).2.1
  generalize hs : sOut g f3 a b d e = rs at hret
  obtain ⟨o, a2, b2, d2, e2⟩ := rs
  refine g_iconst (pc := 0) (v := (nI 4)) hX dX3_putOut_0 (by decide) ?_
  refine g_iload_n (pc := 1) hX dX3_putOut_1 rfl 1 rfl ?_
  refine g_imulN (pc := 2) (r := 4 * t) hX dX3_putOut_2 (by first | rfl | omega) ?_
  refine g_istore_n (pc := 3) (lv' := [(3, .int (nI (4 * t))), (0, .ref m), (1, .int (nI t)), (2, .int (bI f3))]) hX dX3_putOut_3 rfl (by decide) rfl ?_
  refine g_aload_n (pc := 4) hX dX3_putOut_4 rfl 1 rfl ?_
  refine g_get (pc := 5) (C := RX3) (T := TX3) (N := 11) (ci := 3) (v := .ref (am 3)) hX inX3_putOut_X3 0 rfl rfl 3 (by decide) flX3_putOut_19 rfl rfl dX3_putOut_5 ?_
  refine g_iload_n (pc := 8) hX dX3_putOut_8 rfl 0 rfl ?_
  refine g_iald (pc := 9) (v := (nI a.length)) hX 4 rfl (by omega) (by omega) (rr_l0 hR ht).1 dX3_putOut_9 ?_
  refine g_istore (pc := 10) (lv' := [(4, .int (nI a.length)), (3, .int (nI (4 * t))), (0, .ref m), (1, .int (nI t)), (2, .int (bI f3))]) hX dX3_putOut_10 (by decide) rfl ?_
  refine g_iload (pc := 12) hX dX3_putOut_12 0 rfl ?_
  refine g_ifN_le (pc := 14) (tgt := 47) hX (by omega) dX3_putOut_14 (by decide) (fun c14 => ?_) (fun c14 => ?_)
  · refine g_iconst (pc := 47) (v := (nI 0)) hX dX3_putOut_47 (by decide) ?_
    refine g_istore (pc := 48) (lv' := [(5, .int (nI 0)), (4, .int (nI a.length)), (3, .int (nI (4 * t))), (0, .ref m), (1, .int (nI t)), (2, .int (bI f3))]) hX dX3_putOut_48 (by decide) rfl ?_
    have hF : sFirst g f3 a = false := decide_eq_false (fun q => absurd q.1 (by omega))
    have hb0 := hb hF
    refine g_aload_n (pc := 50) hX dX3_putOut_50 rfl 3 rfl ?_
    refine g_aload_n (pc := 51) hX dX3_putOut_51 rfl 3 rfl ?_
    refine g_iload (pc := 52) hX dX3_putOut_52 0 rfl ?_
    refine g_ifN_eq (pc := 54) (tgt := 61) hX (by omega) dX3_putOut_54 (by decide) (fun c54 => ?_) (fun c54 => absurd c54 (by omega))
    refine g_iload_n (pc := 61) hX dX3_putOut_61 rfl 2 rfl ?_
    refine g_iconst (pc := 62) (v := (nI 1)) hX dX3_putOut_62 (by decide) ?_
    refine g_iaddN (pc := 63) (r := (4 * t) + 1) hX dX3_putOut_63 (by first | rfl | omega) ?_
    refine g_ci (pc := 64) hX (wc := [(m, .inr (3, [.ref (am 0), .ref (am 1), .ref (am 2), .ref (am 3), .ref (am 4), .ref (am 5), .ref (am 6), .ref (am 7), .int rd, .int wr, .int vi])), (am 0, .inl (K.2.1, 2, .inl po)), (am 1, .inl (K.2.1, 2, .inl ca)), (am 2, .inl (K.2.1, 2, .inl go)), (am 3, .inl (K.2.1, 8, .inl le)), (am 4, .inl (K.2.1, 160, .inl pg)), (am 5, .inl (K.2.2.1, 128, .inl mk)), (am 6, .inl (K.2.2.1, 128, .inl we)), (am 7, .inl (K.2.1, 6, .inl co))]) (wr := []) (Wd' := fun u64 => [(m, .inr (3, [.ref (am 0), .ref (am 1), .ref (am 2), .ref (am 3), .ref (am 4), .ref (am 5), .ref (am 6), .ref (am 7), .int rd, .int wr, .int vi])), (am 0, .inl (K.2.1, 2, .inl po)), (am 1, .inl (K.2.1, 2, .inl ca)), (am 2, .inl (K.2.1, 2, .inl go)), (am 3, .inl (K.2.1, 8, .inl u64)), (am 4, .inl (K.2.1, 160, .inl pg)), (am 5, .inl (K.2.2.1, 128, .inl mk)), (am 6, .inl (K.2.2.1, 128, .inl we)), (am 7, .inl (K.2.1, 6, .inl co))]) (g_goV (pc := 64) hX (As := [.int (nI ((4 * t) + 1))]) (stk := [.ref m]) (wc := [(m, .inr (3, [.ref (am 0), .ref (am 1), .ref (am 2), .ref (am 3), .ref (am 4), .ref (am 5), .ref (am 6), .ref (am 7), .int rd, .int wr, .int vi])), (am 0, .inl (K.2.1, 2, .inl po)), (am 1, .inl (K.2.1, 2, .inl ca)), (am 2, .inl (K.2.1, 2, .inl go)), (am 3, .inl (K.2.1, 8, .inl le)), (am 4, .inl (K.2.1, 160, .inl pg)), (am 5, .inl (K.2.2.1, 128, .inl mk)), (am 6, .inl (K.2.2.1, 128, .inl we)), (am 7, .inl (K.2.1, 6, .inl co))]) (c_X3_cutTail l K m am po ca go le pg mk we co rd wr vi (rr t a b d e RO) hR ((4 * t) + 1) (by omega) (by rw [rr_1]; omega)) rfl rfl rfl gX3_putOut_X3_cutTail nX3_cutTailV rfl 0 rfl ⟨(Nat.le_of_ble_eq_true rfl), (Nat.le_of_ble_eq_true rfl)⟩ [0, 1, 2, 3, 4, 5, 6, 7, 8] rfl rfl rfl (Nat.le_of_ble_eq_true rfl) dX3_putOut_64 ⟨(Nat.le_of_ble_eq_true rfl), (Nat.le_of_ble_eq_true rfl)⟩) [0, 1, 2, 3, 4, 5, 6, 7, 8] [] [0, 1, 2, 3, 4, 5, 6, 7, 8] rfl rfl rfl (by decide) rfl (fun _ => rfl) (fun r u64 h64 => ?_)
    obtain ⟨rfl, hR64⟩ := h64
    refine g_top (y := (nI (lastD b))) (by rw [rr_1]) ?_
    rw [rr_1, rr_u1] at hR64
    have hv64 := (rr_l1 hR ht).2.2.1.last
    have hd64 := dl_len b
    refine g_put (pc := 67) (C := RX3) (T := TX3) (N := 11) (ci := 3) (v := .int (nI (lastD b))) (ws' := [(m, .inr (3, [.ref (am 0), .ref (am 1), .ref (am 2), .ref (am 3), .ref (am 4), .ref (am 5), .ref (am 6), .ref (am 7), .int rd, .int wr, .int (nI (lastD b))])), (am 0, .inl (K.2.1, 2, .inl po)), (am 1, .inl (K.2.1, 2, .inl ca)), (am 2, .inl (K.2.1, 2, .inl go)), (am 3, .inl (K.2.1, 8, .inl u64)), (am 4, .inl (K.2.1, 160, .inl pg)), (am 5, .inl (K.2.2.1, 128, .inl mk)), (am 6, .inl (K.2.2.1, 128, .inl we)), (am 7, .inl (K.2.1, 6, .inl co))]) hX inX3_putOut_X3 tyX3 tyX3_ok nmX3 0 rfl rfl 10 (by decide) flX3_putOut_65 rfl rfl rfl rfl (Nat.le_of_ble_eq_true rfl) rfl dX3_putOut_67 ?_
    refine g_aload_n (pc := 70) hX dX3_putOut_70 rfl 3 rfl ?_
    refine g_iload (pc := 71) hX dX3_putOut_71 0 rfl ?_
    refine g_ifN_eq (pc := 73) (tgt := 82) hX (by omega) dX3_putOut_73 (by decide) (fun c73 => ?_) (fun c73 => absurd c73 (by omega))
    refine g_iload_n (pc := 82) hX dX3_putOut_82 rfl 2 rfl ?_
    refine g_iconst (pc := 83) (v := (nI 3)) hX dX3_putOut_83 (by decide) ?_
    refine g_iaddN (pc := 84) (r := (4 * t) + 3) hX dX3_putOut_84 (by first | rfl | omega) ?_
    refine g_aload_n (pc := 85) hX dX3_putOut_85 rfl 3 rfl ?_
    refine g_get (pc := 86) (C := RX3) (T := TX3) (N := 11) (ci := 3) (v := .int (nI (lastD b))) hX inX3_putOut_X3 0 rfl rfl 10 (by decide) flX3_putOut_65 rfl rfl dX3_putOut_86 ?_
    refine g_cv (pc := 89) hX (wc := [(m, .inr (3, [.ref (am 0), .ref (am 1), .ref (am 2), .ref (am 3), .ref (am 4), .ref (am 5), .ref (am 6), .ref (am 7), .int rd, .int wr, .int (nI (lastD b))])), (am 0, .inl (K.2.1, 2, .inl po)), (am 1, .inl (K.2.1, 2, .inl ca)), (am 2, .inl (K.2.1, 2, .inl go)), (am 3, .inl (K.2.1, 8, .inl u64)), (am 4, .inl (K.2.1, 160, .inl pg)), (am 5, .inl (K.2.2.1, 128, .inl mk)), (am 6, .inl (K.2.2.1, 128, .inl we)), (am 7, .inl (K.2.1, 6, .inl co))]) (wr := []) (Wd' := fun u89 => [(m, .inr (3, [.ref (am 0), .ref (am 1), .ref (am 2), .ref (am 3), .ref (am 4), .ref (am 5), .ref (am 6), .ref (am 7), .int rd, .int wr, .int (nI (lastD b))])), (am 0, .inl (K.2.1, 2, .inl po)), (am 1, .inl (K.2.1, 2, .inl ca)), (am 2, .inl (K.2.1, 2, .inl go)), (am 3, .inl (K.2.1, 8, .inl u89.1)), (am 4, .inl (K.2.1, 160, .inl u89.2)), (am 5, .inl (K.2.2.1, 128, .inl mk)), (am 6, .inl (K.2.2.1, 128, .inl we)), (am 7, .inl (K.2.1, 6, .inl co))]) (g_goV (pc := 89) hX (As := [.int (nI ((4 * t) + 3)), .int (nI (lastD b))]) (stk := []) (wc := [(m, .inr (3, [.ref (am 0), .ref (am 1), .ref (am 2), .ref (am 3), .ref (am 4), .ref (am 5), .ref (am 6), .ref (am 7), .int rd, .int wr, .int (nI (lastD b))])), (am 0, .inl (K.2.1, 2, .inl po)), (am 1, .inl (K.2.1, 2, .inl ca)), (am 2, .inl (K.2.1, 2, .inl go)), (am 3, .inl (K.2.1, 8, .inl u64)), (am 4, .inl (K.2.1, 160, .inl pg)), (am 5, .inl (K.2.2.1, 128, .inl mk)), (am 6, .inl (K.2.2.1, 128, .inl we)), (am 7, .inl (K.2.1, 6, .inl co))]) (c_X3_toHead l K m am po ca go u64 pg mk we co rd wr (nI (lastD b)) (rr t a b.dropLast d e RO) hR64 ((4 * t) + 3) (by omega) (lastD b) hv64 (by rw [rr_3]; show e.length + 1 ≤ 20; omega)) rfl rfl rfl gX3_putOut_X3_toHead nX3_toHeadV rfl 0 rfl ⟨(Nat.le_of_ble_eq_true rfl), (Nat.le_of_ble_eq_true rfl)⟩ [0, 1, 2, 3, 4, 5, 6, 7, 8] rfl rfl rfl (Nat.le_of_ble_eq_true rfl) dX3_putOut_89 ⟨(Nat.le_of_ble_eq_true rfl), (Nat.le_of_ble_eq_true rfl)⟩) [0, 1, 2, 3, 4, 5, 6, 7, 8] [] [0, 1, 2, 3, 4, 5, 6, 7, 8] rfl rfl rfl (by decide) rfl (fun _ => rfl) (fun u89 h89 => ?_)
    have hR89 := h89
    rw [rr_3, rr_u3] at hR89
    rw [show sOut g f3 a b d e = (lastD b, a, b.dropLast, d, lastD b :: e) from if_neg (by rw [hF]; decide)] at hs
    cases hs
    exact hret (u := (u89.1, u89.2, (nI (lastD b)))) dX3_putOut_92 (⟨hR89, rfl⟩) rfl
  · refine g_iload (pc := 17) hX dX3_putOut_17 0 rfl ?_
    refine g_aload_n (pc := 19) hX dX3_putOut_19 rfl 2 rfl ?_
    refine g_get (pc := 20) (C := RX3) (T := TX3) (N := 11) (ci := 3) (v := .ref (am 2)) hX inX3_putOut_X3 0 rfl rfl 2 (by decide) flX3_putOut_16 rfl rfl dX3_putOut_20 ?_
    refine g_iload_n (pc := 23) hX dX3_putOut_23 rfl 3 rfl ?_
    refine g_iald (pc := 24) (v := (nI g)) hX 3 rfl (by omega) (by omega) hgo dX3_putOut_24 ?_
    refine g_icmpN_gt (pc := 25) (tgt := 43) hX (by omega) (by omega) dX3_putOut_25 (by decide) (fun c25 => ?_) (fun c25 => ?_)
    · refine g_iconst (pc := 43) (v := (nI 1)) hX dX3_putOut_43 (by decide) ?_
      refine g_goto (pc := 44) (tgt := 48) hX dX3_putOut_44 (by decide) ?_
      refine g_istore (pc := 48) (lv' := [(5, .int (nI 1)), (4, .int (nI a.length)), (3, .int (nI (4 * t))), (0, .ref m), (1, .int (nI t)), (2, .int (bI f3))]) hX dX3_putOut_48 (by decide) rfl ?_
      have hF : sFirst g f3 a = true := decide_eq_true ⟨c14, Or.inl c25⟩
      refine g_aload_n (pc := 50) hX dX3_putOut_50 rfl 3 rfl ?_
      refine g_aload_n (pc := 51) hX dX3_putOut_51 rfl 3 rfl ?_
      refine g_iload (pc := 52) hX dX3_putOut_52 0 rfl ?_
      refine g_ifN_eq (pc := 54) (tgt := 61) hX (by omega) dX3_putOut_54 (by decide) (fun c54 => absurd c54 (by omega)) (fun c54 => ?_)
      refine g_iload_n (pc := 57) hX dX3_putOut_57 rfl 2 rfl ?_
      refine g_goto (pc := 58) (tgt := 64) hX dX3_putOut_58 (by decide) ?_
      refine g_ci (pc := 64) hX (wc := [(m, .inr (3, [.ref (am 0), .ref (am 1), .ref (am 2), .ref (am 3), .ref (am 4), .ref (am 5), .ref (am 6), .ref (am 7), .int rd, .int wr, .int vi])), (am 0, .inl (K.2.1, 2, .inl po)), (am 1, .inl (K.2.1, 2, .inl ca)), (am 2, .inl (K.2.1, 2, .inl go)), (am 3, .inl (K.2.1, 8, .inl le)), (am 4, .inl (K.2.1, 160, .inl pg)), (am 5, .inl (K.2.2.1, 128, .inl mk)), (am 6, .inl (K.2.2.1, 128, .inl we)), (am 7, .inl (K.2.1, 6, .inl co))]) (wr := []) (Wd' := fun u64 => [(m, .inr (3, [.ref (am 0), .ref (am 1), .ref (am 2), .ref (am 3), .ref (am 4), .ref (am 5), .ref (am 6), .ref (am 7), .int rd, .int wr, .int vi])), (am 0, .inl (K.2.1, 2, .inl po)), (am 1, .inl (K.2.1, 2, .inl ca)), (am 2, .inl (K.2.1, 2, .inl go)), (am 3, .inl (K.2.1, 8, .inl u64)), (am 4, .inl (K.2.1, 160, .inl pg)), (am 5, .inl (K.2.2.1, 128, .inl mk)), (am 6, .inl (K.2.2.1, 128, .inl we)), (am 7, .inl (K.2.1, 6, .inl co))]) (g_goV (pc := 64) hX (As := [.int (nI (4 * t))]) (stk := [.ref m]) (wc := [(m, .inr (3, [.ref (am 0), .ref (am 1), .ref (am 2), .ref (am 3), .ref (am 4), .ref (am 5), .ref (am 6), .ref (am 7), .int rd, .int wr, .int vi])), (am 0, .inl (K.2.1, 2, .inl po)), (am 1, .inl (K.2.1, 2, .inl ca)), (am 2, .inl (K.2.1, 2, .inl go)), (am 3, .inl (K.2.1, 8, .inl le)), (am 4, .inl (K.2.1, 160, .inl pg)), (am 5, .inl (K.2.2.1, 128, .inl mk)), (am 6, .inl (K.2.2.1, 128, .inl we)), (am 7, .inl (K.2.1, 6, .inl co))]) (c_X3_cutTail l K m am po ca go le pg mk we co rd wr vi (rr t a b d e RO) hR (4 * t) (by omega) (by rw [rr_0]; omega)) rfl rfl rfl gX3_putOut_X3_cutTail nX3_cutTailV rfl 0 rfl ⟨(Nat.le_of_ble_eq_true rfl), (Nat.le_of_ble_eq_true rfl)⟩ [0, 1, 2, 3, 4, 5, 6, 7, 8] rfl rfl rfl (Nat.le_of_ble_eq_true rfl) dX3_putOut_64 ⟨(Nat.le_of_ble_eq_true rfl), (Nat.le_of_ble_eq_true rfl)⟩) [0, 1, 2, 3, 4, 5, 6, 7, 8] [] [0, 1, 2, 3, 4, 5, 6, 7, 8] rfl rfl rfl (by decide) rfl (fun _ => rfl) (fun r u64 h64 => ?_)
      obtain ⟨rfl, hR64⟩ := h64
      refine g_top (y := (nI (lastD a))) (by rw [rr_0]) ?_
      rw [rr_0, rr_u0] at hR64
      have hv64 := (rr_l0 hR ht).2.2.1.last
      have hd64 := dl_len a
      refine g_put (pc := 67) (C := RX3) (T := TX3) (N := 11) (ci := 3) (v := .int (nI (lastD a))) (ws' := [(m, .inr (3, [.ref (am 0), .ref (am 1), .ref (am 2), .ref (am 3), .ref (am 4), .ref (am 5), .ref (am 6), .ref (am 7), .int rd, .int wr, .int (nI (lastD a))])), (am 0, .inl (K.2.1, 2, .inl po)), (am 1, .inl (K.2.1, 2, .inl ca)), (am 2, .inl (K.2.1, 2, .inl go)), (am 3, .inl (K.2.1, 8, .inl u64)), (am 4, .inl (K.2.1, 160, .inl pg)), (am 5, .inl (K.2.2.1, 128, .inl mk)), (am 6, .inl (K.2.2.1, 128, .inl we)), (am 7, .inl (K.2.1, 6, .inl co))]) hX inX3_putOut_X3 tyX3 tyX3_ok nmX3 0 rfl rfl 10 (by decide) flX3_putOut_65 rfl rfl rfl rfl (Nat.le_of_ble_eq_true rfl) rfl dX3_putOut_67 ?_
      refine g_aload_n (pc := 70) hX dX3_putOut_70 rfl 3 rfl ?_
      refine g_iload (pc := 71) hX dX3_putOut_71 0 rfl ?_
      refine g_ifN_eq (pc := 73) (tgt := 82) hX (by omega) dX3_putOut_73 (by decide) (fun c73 => absurd c73 (by omega)) (fun c73 => ?_)
      refine g_iload_n (pc := 76) hX dX3_putOut_76 rfl 2 rfl ?_
      refine g_iconst (pc := 77) (v := (nI 2)) hX dX3_putOut_77 (by decide) ?_
      refine g_iaddN (pc := 78) (r := (4 * t) + 2) hX dX3_putOut_78 (by first | rfl | omega) ?_
      refine g_goto (pc := 79) (tgt := 85) hX dX3_putOut_79 (by decide) ?_
      refine g_aload_n (pc := 85) hX dX3_putOut_85 rfl 3 rfl ?_
      refine g_get (pc := 86) (C := RX3) (T := TX3) (N := 11) (ci := 3) (v := .int (nI (lastD a))) hX inX3_putOut_X3 0 rfl rfl 10 (by decide) flX3_putOut_65 rfl rfl dX3_putOut_86 ?_
      refine g_cv (pc := 89) hX (wc := [(m, .inr (3, [.ref (am 0), .ref (am 1), .ref (am 2), .ref (am 3), .ref (am 4), .ref (am 5), .ref (am 6), .ref (am 7), .int rd, .int wr, .int (nI (lastD a))])), (am 0, .inl (K.2.1, 2, .inl po)), (am 1, .inl (K.2.1, 2, .inl ca)), (am 2, .inl (K.2.1, 2, .inl go)), (am 3, .inl (K.2.1, 8, .inl u64)), (am 4, .inl (K.2.1, 160, .inl pg)), (am 5, .inl (K.2.2.1, 128, .inl mk)), (am 6, .inl (K.2.2.1, 128, .inl we)), (am 7, .inl (K.2.1, 6, .inl co))]) (wr := []) (Wd' := fun u89 => [(m, .inr (3, [.ref (am 0), .ref (am 1), .ref (am 2), .ref (am 3), .ref (am 4), .ref (am 5), .ref (am 6), .ref (am 7), .int rd, .int wr, .int (nI (lastD a))])), (am 0, .inl (K.2.1, 2, .inl po)), (am 1, .inl (K.2.1, 2, .inl ca)), (am 2, .inl (K.2.1, 2, .inl go)), (am 3, .inl (K.2.1, 8, .inl u89.1)), (am 4, .inl (K.2.1, 160, .inl u89.2)), (am 5, .inl (K.2.2.1, 128, .inl mk)), (am 6, .inl (K.2.2.1, 128, .inl we)), (am 7, .inl (K.2.1, 6, .inl co))]) (g_goV (pc := 89) hX (As := [.int (nI ((4 * t) + 2)), .int (nI (lastD a))]) (stk := []) (wc := [(m, .inr (3, [.ref (am 0), .ref (am 1), .ref (am 2), .ref (am 3), .ref (am 4), .ref (am 5), .ref (am 6), .ref (am 7), .int rd, .int wr, .int (nI (lastD a))])), (am 0, .inl (K.2.1, 2, .inl po)), (am 1, .inl (K.2.1, 2, .inl ca)), (am 2, .inl (K.2.1, 2, .inl go)), (am 3, .inl (K.2.1, 8, .inl u64)), (am 4, .inl (K.2.1, 160, .inl pg)), (am 5, .inl (K.2.2.1, 128, .inl mk)), (am 6, .inl (K.2.2.1, 128, .inl we)), (am 7, .inl (K.2.1, 6, .inl co))]) (c_X3_toHead l K m am po ca go u64 pg mk we co rd wr (nI (lastD a)) (rr t a.dropLast b d e RO) hR64 ((4 * t) + 2) (by omega) (lastD a) hv64 (by rw [rr_2]; show d.length + 1 ≤ 20; omega)) rfl rfl rfl gX3_putOut_X3_toHead nX3_toHeadV rfl 0 rfl ⟨(Nat.le_of_ble_eq_true rfl), (Nat.le_of_ble_eq_true rfl)⟩ [0, 1, 2, 3, 4, 5, 6, 7, 8] rfl rfl rfl (Nat.le_of_ble_eq_true rfl) dX3_putOut_89 ⟨(Nat.le_of_ble_eq_true rfl), (Nat.le_of_ble_eq_true rfl)⟩) [0, 1, 2, 3, 4, 5, 6, 7, 8] [] [0, 1, 2, 3, 4, 5, 6, 7, 8] rfl rfl rfl (by decide) rfl (fun _ => rfl) (fun u89 h89 => ?_)
      have hR89 := h89
      rw [rr_2, rr_u2] at hR89
      rw [show sOut g f3 a b d e = (lastD a, a.dropLast, b, lastD a :: d, e) from if_pos hF] at hs
      cases hs
      exact hret (u := (u89.1, u89.2, (nI (lastD a)))) dX3_putOut_92 (⟨hR89, rfl⟩) rfl
    · refine g_iload (pc := 28) hX dX3_putOut_28 0 rfl ?_
      refine g_aload_n (pc := 30) hX dX3_putOut_30 rfl 2 rfl ?_
      refine g_get (pc := 31) (C := RX3) (T := TX3) (N := 11) (ci := 3) (v := .ref (am 2)) hX inX3_putOut_X3 0 rfl rfl 2 (by decide) flX3_putOut_16 rfl rfl dX3_putOut_31 ?_
      refine g_iload_n (pc := 34) hX dX3_putOut_34 rfl 3 rfl ?_
      refine g_iald (pc := 35) (v := (nI g)) hX 3 rfl (by omega) (by omega) hgo dX3_putOut_35 ?_
      refine g_icmpN_ne (pc := 36) (tgt := 47) hX (by omega) (by omega) dX3_putOut_36 (by decide) (fun c36 => ?_) (fun c36 => ?_)
      · refine g_iconst (pc := 47) (v := (nI 0)) hX dX3_putOut_47 (by decide) ?_
        refine g_istore (pc := 48) (lv' := [(5, .int (nI 0)), (4, .int (nI a.length)), (3, .int (nI (4 * t))), (0, .ref m), (1, .int (nI t)), (2, .int (bI f3))]) hX dX3_putOut_48 (by decide) rfl ?_
        have hF : sFirst g f3 a = false := decide_eq_false (fun q => q.2.elim (fun z => absurd z (by omega)) (fun z => absurd z.1 c36))
        have hb0 := hb hF
        refine g_aload_n (pc := 50) hX dX3_putOut_50 rfl 3 rfl ?_
        refine g_aload_n (pc := 51) hX dX3_putOut_51 rfl 3 rfl ?_
        refine g_iload (pc := 52) hX dX3_putOut_52 0 rfl ?_
        refine g_ifN_eq (pc := 54) (tgt := 61) hX (by omega) dX3_putOut_54 (by decide) (fun c54 => ?_) (fun c54 => absurd c54 (by omega))
        refine g_iload_n (pc := 61) hX dX3_putOut_61 rfl 2 rfl ?_
        refine g_iconst (pc := 62) (v := (nI 1)) hX dX3_putOut_62 (by decide) ?_
        refine g_iaddN (pc := 63) (r := (4 * t) + 1) hX dX3_putOut_63 (by first | rfl | omega) ?_
        refine g_ci (pc := 64) hX (wc := [(m, .inr (3, [.ref (am 0), .ref (am 1), .ref (am 2), .ref (am 3), .ref (am 4), .ref (am 5), .ref (am 6), .ref (am 7), .int rd, .int wr, .int vi])), (am 0, .inl (K.2.1, 2, .inl po)), (am 1, .inl (K.2.1, 2, .inl ca)), (am 2, .inl (K.2.1, 2, .inl go)), (am 3, .inl (K.2.1, 8, .inl le)), (am 4, .inl (K.2.1, 160, .inl pg)), (am 5, .inl (K.2.2.1, 128, .inl mk)), (am 6, .inl (K.2.2.1, 128, .inl we)), (am 7, .inl (K.2.1, 6, .inl co))]) (wr := []) (Wd' := fun u64 => [(m, .inr (3, [.ref (am 0), .ref (am 1), .ref (am 2), .ref (am 3), .ref (am 4), .ref (am 5), .ref (am 6), .ref (am 7), .int rd, .int wr, .int vi])), (am 0, .inl (K.2.1, 2, .inl po)), (am 1, .inl (K.2.1, 2, .inl ca)), (am 2, .inl (K.2.1, 2, .inl go)), (am 3, .inl (K.2.1, 8, .inl u64)), (am 4, .inl (K.2.1, 160, .inl pg)), (am 5, .inl (K.2.2.1, 128, .inl mk)), (am 6, .inl (K.2.2.1, 128, .inl we)), (am 7, .inl (K.2.1, 6, .inl co))]) (g_goV (pc := 64) hX (As := [.int (nI ((4 * t) + 1))]) (stk := [.ref m]) (wc := [(m, .inr (3, [.ref (am 0), .ref (am 1), .ref (am 2), .ref (am 3), .ref (am 4), .ref (am 5), .ref (am 6), .ref (am 7), .int rd, .int wr, .int vi])), (am 0, .inl (K.2.1, 2, .inl po)), (am 1, .inl (K.2.1, 2, .inl ca)), (am 2, .inl (K.2.1, 2, .inl go)), (am 3, .inl (K.2.1, 8, .inl le)), (am 4, .inl (K.2.1, 160, .inl pg)), (am 5, .inl (K.2.2.1, 128, .inl mk)), (am 6, .inl (K.2.2.1, 128, .inl we)), (am 7, .inl (K.2.1, 6, .inl co))]) (c_X3_cutTail l K m am po ca go le pg mk we co rd wr vi (rr t a b d e RO) hR ((4 * t) + 1) (by omega) (by rw [rr_1]; omega)) rfl rfl rfl gX3_putOut_X3_cutTail nX3_cutTailV rfl 0 rfl ⟨(Nat.le_of_ble_eq_true rfl), (Nat.le_of_ble_eq_true rfl)⟩ [0, 1, 2, 3, 4, 5, 6, 7, 8] rfl rfl rfl (Nat.le_of_ble_eq_true rfl) dX3_putOut_64 ⟨(Nat.le_of_ble_eq_true rfl), (Nat.le_of_ble_eq_true rfl)⟩) [0, 1, 2, 3, 4, 5, 6, 7, 8] [] [0, 1, 2, 3, 4, 5, 6, 7, 8] rfl rfl rfl (by decide) rfl (fun _ => rfl) (fun r u64 h64 => ?_)
        obtain ⟨rfl, hR64⟩ := h64
        refine g_top (y := (nI (lastD b))) (by rw [rr_1]) ?_
        rw [rr_1, rr_u1] at hR64
        have hv64 := (rr_l1 hR ht).2.2.1.last
        have hd64 := dl_len b
        refine g_put (pc := 67) (C := RX3) (T := TX3) (N := 11) (ci := 3) (v := .int (nI (lastD b))) (ws' := [(m, .inr (3, [.ref (am 0), .ref (am 1), .ref (am 2), .ref (am 3), .ref (am 4), .ref (am 5), .ref (am 6), .ref (am 7), .int rd, .int wr, .int (nI (lastD b))])), (am 0, .inl (K.2.1, 2, .inl po)), (am 1, .inl (K.2.1, 2, .inl ca)), (am 2, .inl (K.2.1, 2, .inl go)), (am 3, .inl (K.2.1, 8, .inl u64)), (am 4, .inl (K.2.1, 160, .inl pg)), (am 5, .inl (K.2.2.1, 128, .inl mk)), (am 6, .inl (K.2.2.1, 128, .inl we)), (am 7, .inl (K.2.1, 6, .inl co))]) hX inX3_putOut_X3 tyX3 tyX3_ok nmX3 0 rfl rfl 10 (by decide) flX3_putOut_65 rfl rfl rfl rfl (Nat.le_of_ble_eq_true rfl) rfl dX3_putOut_67 ?_
        refine g_aload_n (pc := 70) hX dX3_putOut_70 rfl 3 rfl ?_
        refine g_iload (pc := 71) hX dX3_putOut_71 0 rfl ?_
        refine g_ifN_eq (pc := 73) (tgt := 82) hX (by omega) dX3_putOut_73 (by decide) (fun c73 => ?_) (fun c73 => absurd c73 (by omega))
        refine g_iload_n (pc := 82) hX dX3_putOut_82 rfl 2 rfl ?_
        refine g_iconst (pc := 83) (v := (nI 3)) hX dX3_putOut_83 (by decide) ?_
        refine g_iaddN (pc := 84) (r := (4 * t) + 3) hX dX3_putOut_84 (by first | rfl | omega) ?_
        refine g_aload_n (pc := 85) hX dX3_putOut_85 rfl 3 rfl ?_
        refine g_get (pc := 86) (C := RX3) (T := TX3) (N := 11) (ci := 3) (v := .int (nI (lastD b))) hX inX3_putOut_X3 0 rfl rfl 10 (by decide) flX3_putOut_65 rfl rfl dX3_putOut_86 ?_
        refine g_cv (pc := 89) hX (wc := [(m, .inr (3, [.ref (am 0), .ref (am 1), .ref (am 2), .ref (am 3), .ref (am 4), .ref (am 5), .ref (am 6), .ref (am 7), .int rd, .int wr, .int (nI (lastD b))])), (am 0, .inl (K.2.1, 2, .inl po)), (am 1, .inl (K.2.1, 2, .inl ca)), (am 2, .inl (K.2.1, 2, .inl go)), (am 3, .inl (K.2.1, 8, .inl u64)), (am 4, .inl (K.2.1, 160, .inl pg)), (am 5, .inl (K.2.2.1, 128, .inl mk)), (am 6, .inl (K.2.2.1, 128, .inl we)), (am 7, .inl (K.2.1, 6, .inl co))]) (wr := []) (Wd' := fun u89 => [(m, .inr (3, [.ref (am 0), .ref (am 1), .ref (am 2), .ref (am 3), .ref (am 4), .ref (am 5), .ref (am 6), .ref (am 7), .int rd, .int wr, .int (nI (lastD b))])), (am 0, .inl (K.2.1, 2, .inl po)), (am 1, .inl (K.2.1, 2, .inl ca)), (am 2, .inl (K.2.1, 2, .inl go)), (am 3, .inl (K.2.1, 8, .inl u89.1)), (am 4, .inl (K.2.1, 160, .inl u89.2)), (am 5, .inl (K.2.2.1, 128, .inl mk)), (am 6, .inl (K.2.2.1, 128, .inl we)), (am 7, .inl (K.2.1, 6, .inl co))]) (g_goV (pc := 89) hX (As := [.int (nI ((4 * t) + 3)), .int (nI (lastD b))]) (stk := []) (wc := [(m, .inr (3, [.ref (am 0), .ref (am 1), .ref (am 2), .ref (am 3), .ref (am 4), .ref (am 5), .ref (am 6), .ref (am 7), .int rd, .int wr, .int (nI (lastD b))])), (am 0, .inl (K.2.1, 2, .inl po)), (am 1, .inl (K.2.1, 2, .inl ca)), (am 2, .inl (K.2.1, 2, .inl go)), (am 3, .inl (K.2.1, 8, .inl u64)), (am 4, .inl (K.2.1, 160, .inl pg)), (am 5, .inl (K.2.2.1, 128, .inl mk)), (am 6, .inl (K.2.2.1, 128, .inl we)), (am 7, .inl (K.2.1, 6, .inl co))]) (c_X3_toHead l K m am po ca go u64 pg mk we co rd wr (nI (lastD b)) (rr t a b.dropLast d e RO) hR64 ((4 * t) + 3) (by omega) (lastD b) hv64 (by rw [rr_3]; show e.length + 1 ≤ 20; omega)) rfl rfl rfl gX3_putOut_X3_toHead nX3_toHeadV rfl 0 rfl ⟨(Nat.le_of_ble_eq_true rfl), (Nat.le_of_ble_eq_true rfl)⟩ [0, 1, 2, 3, 4, 5, 6, 7, 8] rfl rfl rfl (Nat.le_of_ble_eq_true rfl) dX3_putOut_89 ⟨(Nat.le_of_ble_eq_true rfl), (Nat.le_of_ble_eq_true rfl)⟩) [0, 1, 2, 3, 4, 5, 6, 7, 8] [] [0, 1, 2, 3, 4, 5, 6, 7, 8] rfl rfl rfl (by decide) rfl (fun _ => rfl) (fun u89 h89 => ?_)
        have hR89 := h89
        rw [rr_3, rr_u3] at hR89
        rw [show sOut g f3 a b d e = (lastD b, a, b.dropLast, d, lastD b :: e) from if_neg (by rw [hF]; decide)] at hs
        cases hs
        exact hret (u := (u89.1, u89.2, (nI (lastD b)))) dX3_putOut_92 (⟨hR89, rfl⟩) rfl
      · refine g_iload_n (pc := 39) hX dX3_putOut_39 rfl 4 rfl ?_
        refine g_ifB_eq (pc := 40) (tgt := 47) hX dX3_putOut_40 (by decide) (fun c40 => ?_) (fun c40 => ?_)
        · refine g_iconst (pc := 47) (v := (nI 0)) hX dX3_putOut_47 (by decide) ?_
          refine g_istore (pc := 48) (lv' := [(5, .int (nI 0)), (4, .int (nI a.length)), (3, .int (nI (4 * t))), (0, .ref m), (1, .int (nI t)), (2, .int (bI f3))]) hX dX3_putOut_48 (by decide) rfl ?_
          have hF : sFirst g f3 a = false := decide_eq_false (fun q => q.2.elim (fun z => absurd z (by omega)) (fun z => absurd z.2 (by rw [c40]; decide)))
          have hb0 := hb hF
          refine g_aload_n (pc := 50) hX dX3_putOut_50 rfl 3 rfl ?_
          refine g_aload_n (pc := 51) hX dX3_putOut_51 rfl 3 rfl ?_
          refine g_iload (pc := 52) hX dX3_putOut_52 0 rfl ?_
          refine g_ifN_eq (pc := 54) (tgt := 61) hX (by omega) dX3_putOut_54 (by decide) (fun c54 => ?_) (fun c54 => absurd c54 (by omega))
          refine g_iload_n (pc := 61) hX dX3_putOut_61 rfl 2 rfl ?_
          refine g_iconst (pc := 62) (v := (nI 1)) hX dX3_putOut_62 (by decide) ?_
          refine g_iaddN (pc := 63) (r := (4 * t) + 1) hX dX3_putOut_63 (by first | rfl | omega) ?_
          refine g_ci (pc := 64) hX (wc := [(m, .inr (3, [.ref (am 0), .ref (am 1), .ref (am 2), .ref (am 3), .ref (am 4), .ref (am 5), .ref (am 6), .ref (am 7), .int rd, .int wr, .int vi])), (am 0, .inl (K.2.1, 2, .inl po)), (am 1, .inl (K.2.1, 2, .inl ca)), (am 2, .inl (K.2.1, 2, .inl go)), (am 3, .inl (K.2.1, 8, .inl le)), (am 4, .inl (K.2.1, 160, .inl pg)), (am 5, .inl (K.2.2.1, 128, .inl mk)), (am 6, .inl (K.2.2.1, 128, .inl we)), (am 7, .inl (K.2.1, 6, .inl co))]) (wr := []) (Wd' := fun u64 => [(m, .inr (3, [.ref (am 0), .ref (am 1), .ref (am 2), .ref (am 3), .ref (am 4), .ref (am 5), .ref (am 6), .ref (am 7), .int rd, .int wr, .int vi])), (am 0, .inl (K.2.1, 2, .inl po)), (am 1, .inl (K.2.1, 2, .inl ca)), (am 2, .inl (K.2.1, 2, .inl go)), (am 3, .inl (K.2.1, 8, .inl u64)), (am 4, .inl (K.2.1, 160, .inl pg)), (am 5, .inl (K.2.2.1, 128, .inl mk)), (am 6, .inl (K.2.2.1, 128, .inl we)), (am 7, .inl (K.2.1, 6, .inl co))]) (g_goV (pc := 64) hX (As := [.int (nI ((4 * t) + 1))]) (stk := [.ref m]) (wc := [(m, .inr (3, [.ref (am 0), .ref (am 1), .ref (am 2), .ref (am 3), .ref (am 4), .ref (am 5), .ref (am 6), .ref (am 7), .int rd, .int wr, .int vi])), (am 0, .inl (K.2.1, 2, .inl po)), (am 1, .inl (K.2.1, 2, .inl ca)), (am 2, .inl (K.2.1, 2, .inl go)), (am 3, .inl (K.2.1, 8, .inl le)), (am 4, .inl (K.2.1, 160, .inl pg)), (am 5, .inl (K.2.2.1, 128, .inl mk)), (am 6, .inl (K.2.2.1, 128, .inl we)), (am 7, .inl (K.2.1, 6, .inl co))]) (c_X3_cutTail l K m am po ca go le pg mk we co rd wr vi (rr t a b d e RO) hR ((4 * t) + 1) (by omega) (by rw [rr_1]; omega)) rfl rfl rfl gX3_putOut_X3_cutTail nX3_cutTailV rfl 0 rfl ⟨(Nat.le_of_ble_eq_true rfl), (Nat.le_of_ble_eq_true rfl)⟩ [0, 1, 2, 3, 4, 5, 6, 7, 8] rfl rfl rfl (Nat.le_of_ble_eq_true rfl) dX3_putOut_64 ⟨(Nat.le_of_ble_eq_true rfl), (Nat.le_of_ble_eq_true rfl)⟩) [0, 1, 2, 3, 4, 5, 6, 7, 8] [] [0, 1, 2, 3, 4, 5, 6, 7, 8] rfl rfl rfl (by decide) rfl (fun _ => rfl) (fun r u64 h64 => ?_)
          obtain ⟨rfl, hR64⟩ := h64
          refine g_top (y := (nI (lastD b))) (by rw [rr_1]) ?_
          rw [rr_1, rr_u1] at hR64
          have hv64 := (rr_l1 hR ht).2.2.1.last
          have hd64 := dl_len b
          refine g_put (pc := 67) (C := RX3) (T := TX3) (N := 11) (ci := 3) (v := .int (nI (lastD b))) (ws' := [(m, .inr (3, [.ref (am 0), .ref (am 1), .ref (am 2), .ref (am 3), .ref (am 4), .ref (am 5), .ref (am 6), .ref (am 7), .int rd, .int wr, .int (nI (lastD b))])), (am 0, .inl (K.2.1, 2, .inl po)), (am 1, .inl (K.2.1, 2, .inl ca)), (am 2, .inl (K.2.1, 2, .inl go)), (am 3, .inl (K.2.1, 8, .inl u64)), (am 4, .inl (K.2.1, 160, .inl pg)), (am 5, .inl (K.2.2.1, 128, .inl mk)), (am 6, .inl (K.2.2.1, 128, .inl we)), (am 7, .inl (K.2.1, 6, .inl co))]) hX inX3_putOut_X3 tyX3 tyX3_ok nmX3 0 rfl rfl 10 (by decide) flX3_putOut_65 rfl rfl rfl rfl (Nat.le_of_ble_eq_true rfl) rfl dX3_putOut_67 ?_
          refine g_aload_n (pc := 70) hX dX3_putOut_70 rfl 3 rfl ?_
          refine g_iload (pc := 71) hX dX3_putOut_71 0 rfl ?_
          refine g_ifN_eq (pc := 73) (tgt := 82) hX (by omega) dX3_putOut_73 (by decide) (fun c73 => ?_) (fun c73 => absurd c73 (by omega))
          refine g_iload_n (pc := 82) hX dX3_putOut_82 rfl 2 rfl ?_
          refine g_iconst (pc := 83) (v := (nI 3)) hX dX3_putOut_83 (by decide) ?_
          refine g_iaddN (pc := 84) (r := (4 * t) + 3) hX dX3_putOut_84 (by first | rfl | omega) ?_
          refine g_aload_n (pc := 85) hX dX3_putOut_85 rfl 3 rfl ?_
          refine g_get (pc := 86) (C := RX3) (T := TX3) (N := 11) (ci := 3) (v := .int (nI (lastD b))) hX inX3_putOut_X3 0 rfl rfl 10 (by decide) flX3_putOut_65 rfl rfl dX3_putOut_86 ?_
          refine g_cv (pc := 89) hX (wc := [(m, .inr (3, [.ref (am 0), .ref (am 1), .ref (am 2), .ref (am 3), .ref (am 4), .ref (am 5), .ref (am 6), .ref (am 7), .int rd, .int wr, .int (nI (lastD b))])), (am 0, .inl (K.2.1, 2, .inl po)), (am 1, .inl (K.2.1, 2, .inl ca)), (am 2, .inl (K.2.1, 2, .inl go)), (am 3, .inl (K.2.1, 8, .inl u64)), (am 4, .inl (K.2.1, 160, .inl pg)), (am 5, .inl (K.2.2.1, 128, .inl mk)), (am 6, .inl (K.2.2.1, 128, .inl we)), (am 7, .inl (K.2.1, 6, .inl co))]) (wr := []) (Wd' := fun u89 => [(m, .inr (3, [.ref (am 0), .ref (am 1), .ref (am 2), .ref (am 3), .ref (am 4), .ref (am 5), .ref (am 6), .ref (am 7), .int rd, .int wr, .int (nI (lastD b))])), (am 0, .inl (K.2.1, 2, .inl po)), (am 1, .inl (K.2.1, 2, .inl ca)), (am 2, .inl (K.2.1, 2, .inl go)), (am 3, .inl (K.2.1, 8, .inl u89.1)), (am 4, .inl (K.2.1, 160, .inl u89.2)), (am 5, .inl (K.2.2.1, 128, .inl mk)), (am 6, .inl (K.2.2.1, 128, .inl we)), (am 7, .inl (K.2.1, 6, .inl co))]) (g_goV (pc := 89) hX (As := [.int (nI ((4 * t) + 3)), .int (nI (lastD b))]) (stk := []) (wc := [(m, .inr (3, [.ref (am 0), .ref (am 1), .ref (am 2), .ref (am 3), .ref (am 4), .ref (am 5), .ref (am 6), .ref (am 7), .int rd, .int wr, .int (nI (lastD b))])), (am 0, .inl (K.2.1, 2, .inl po)), (am 1, .inl (K.2.1, 2, .inl ca)), (am 2, .inl (K.2.1, 2, .inl go)), (am 3, .inl (K.2.1, 8, .inl u64)), (am 4, .inl (K.2.1, 160, .inl pg)), (am 5, .inl (K.2.2.1, 128, .inl mk)), (am 6, .inl (K.2.2.1, 128, .inl we)), (am 7, .inl (K.2.1, 6, .inl co))]) (c_X3_toHead l K m am po ca go u64 pg mk we co rd wr (nI (lastD b)) (rr t a b.dropLast d e RO) hR64 ((4 * t) + 3) (by omega) (lastD b) hv64 (by rw [rr_3]; show e.length + 1 ≤ 20; omega)) rfl rfl rfl gX3_putOut_X3_toHead nX3_toHeadV rfl 0 rfl ⟨(Nat.le_of_ble_eq_true rfl), (Nat.le_of_ble_eq_true rfl)⟩ [0, 1, 2, 3, 4, 5, 6, 7, 8] rfl rfl rfl (Nat.le_of_ble_eq_true rfl) dX3_putOut_89 ⟨(Nat.le_of_ble_eq_true rfl), (Nat.le_of_ble_eq_true rfl)⟩) [0, 1, 2, 3, 4, 5, 6, 7, 8] [] [0, 1, 2, 3, 4, 5, 6, 7, 8] rfl rfl rfl (by decide) rfl (fun _ => rfl) (fun u89 h89 => ?_)
          have hR89 := h89
          rw [rr_3, rr_u3] at hR89
          rw [show sOut g f3 a b d e = (lastD b, a, b.dropLast, d, lastD b :: e) from if_neg (by rw [hF]; decide)] at hs
          cases hs
          exact hret (u := (u89.1, u89.2, (nI (lastD b)))) dX3_putOut_92 (⟨hR89, rfl⟩) rfl
        · refine g_iconst (pc := 43) (v := (nI 1)) hX dX3_putOut_43 (by decide) ?_
          refine g_goto (pc := 44) (tgt := 48) hX dX3_putOut_44 (by decide) ?_
          refine g_istore (pc := 48) (lv' := [(5, .int (nI 1)), (4, .int (nI a.length)), (3, .int (nI (4 * t))), (0, .ref m), (1, .int (nI t)), (2, .int (bI f3))]) hX dX3_putOut_48 (by decide) rfl ?_
          have hF : sFirst g f3 a = true := decide_eq_true ⟨c14, Or.inr ⟨c36, c40⟩⟩
          refine g_aload_n (pc := 50) hX dX3_putOut_50 rfl 3 rfl ?_
          refine g_aload_n (pc := 51) hX dX3_putOut_51 rfl 3 rfl ?_
          refine g_iload (pc := 52) hX dX3_putOut_52 0 rfl ?_
          refine g_ifN_eq (pc := 54) (tgt := 61) hX (by omega) dX3_putOut_54 (by decide) (fun c54 => absurd c54 (by omega)) (fun c54 => ?_)
          refine g_iload_n (pc := 57) hX dX3_putOut_57 rfl 2 rfl ?_
          refine g_goto (pc := 58) (tgt := 64) hX dX3_putOut_58 (by decide) ?_
          refine g_ci (pc := 64) hX (wc := [(m, .inr (3, [.ref (am 0), .ref (am 1), .ref (am 2), .ref (am 3), .ref (am 4), .ref (am 5), .ref (am 6), .ref (am 7), .int rd, .int wr, .int vi])), (am 0, .inl (K.2.1, 2, .inl po)), (am 1, .inl (K.2.1, 2, .inl ca)), (am 2, .inl (K.2.1, 2, .inl go)), (am 3, .inl (K.2.1, 8, .inl le)), (am 4, .inl (K.2.1, 160, .inl pg)), (am 5, .inl (K.2.2.1, 128, .inl mk)), (am 6, .inl (K.2.2.1, 128, .inl we)), (am 7, .inl (K.2.1, 6, .inl co))]) (wr := []) (Wd' := fun u64 => [(m, .inr (3, [.ref (am 0), .ref (am 1), .ref (am 2), .ref (am 3), .ref (am 4), .ref (am 5), .ref (am 6), .ref (am 7), .int rd, .int wr, .int vi])), (am 0, .inl (K.2.1, 2, .inl po)), (am 1, .inl (K.2.1, 2, .inl ca)), (am 2, .inl (K.2.1, 2, .inl go)), (am 3, .inl (K.2.1, 8, .inl u64)), (am 4, .inl (K.2.1, 160, .inl pg)), (am 5, .inl (K.2.2.1, 128, .inl mk)), (am 6, .inl (K.2.2.1, 128, .inl we)), (am 7, .inl (K.2.1, 6, .inl co))]) (g_goV (pc := 64) hX (As := [.int (nI (4 * t))]) (stk := [.ref m]) (wc := [(m, .inr (3, [.ref (am 0), .ref (am 1), .ref (am 2), .ref (am 3), .ref (am 4), .ref (am 5), .ref (am 6), .ref (am 7), .int rd, .int wr, .int vi])), (am 0, .inl (K.2.1, 2, .inl po)), (am 1, .inl (K.2.1, 2, .inl ca)), (am 2, .inl (K.2.1, 2, .inl go)), (am 3, .inl (K.2.1, 8, .inl le)), (am 4, .inl (K.2.1, 160, .inl pg)), (am 5, .inl (K.2.2.1, 128, .inl mk)), (am 6, .inl (K.2.2.1, 128, .inl we)), (am 7, .inl (K.2.1, 6, .inl co))]) (c_X3_cutTail l K m am po ca go le pg mk we co rd wr vi (rr t a b d e RO) hR (4 * t) (by omega) (by rw [rr_0]; omega)) rfl rfl rfl gX3_putOut_X3_cutTail nX3_cutTailV rfl 0 rfl ⟨(Nat.le_of_ble_eq_true rfl), (Nat.le_of_ble_eq_true rfl)⟩ [0, 1, 2, 3, 4, 5, 6, 7, 8] rfl rfl rfl (Nat.le_of_ble_eq_true rfl) dX3_putOut_64 ⟨(Nat.le_of_ble_eq_true rfl), (Nat.le_of_ble_eq_true rfl)⟩) [0, 1, 2, 3, 4, 5, 6, 7, 8] [] [0, 1, 2, 3, 4, 5, 6, 7, 8] rfl rfl rfl (by decide) rfl (fun _ => rfl) (fun r u64 h64 => ?_)
          obtain ⟨rfl, hR64⟩ := h64
          refine g_top (y := (nI (lastD a))) (by rw [rr_0]) ?_
          rw [rr_0, rr_u0] at hR64
          have hv64 := (rr_l0 hR ht).2.2.1.last
          have hd64 := dl_len a
          refine g_put (pc := 67) (C := RX3) (T := TX3) (N := 11) (ci := 3) (v := .int (nI (lastD a))) (ws' := [(m, .inr (3, [.ref (am 0), .ref (am 1), .ref (am 2), .ref (am 3), .ref (am 4), .ref (am 5), .ref (am 6), .ref (am 7), .int rd, .int wr, .int (nI (lastD a))])), (am 0, .inl (K.2.1, 2, .inl po)), (am 1, .inl (K.2.1, 2, .inl ca)), (am 2, .inl (K.2.1, 2, .inl go)), (am 3, .inl (K.2.1, 8, .inl u64)), (am 4, .inl (K.2.1, 160, .inl pg)), (am 5, .inl (K.2.2.1, 128, .inl mk)), (am 6, .inl (K.2.2.1, 128, .inl we)), (am 7, .inl (K.2.1, 6, .inl co))]) hX inX3_putOut_X3 tyX3 tyX3_ok nmX3 0 rfl rfl 10 (by decide) flX3_putOut_65 rfl rfl rfl rfl (Nat.le_of_ble_eq_true rfl) rfl dX3_putOut_67 ?_
          refine g_aload_n (pc := 70) hX dX3_putOut_70 rfl 3 rfl ?_
          refine g_iload (pc := 71) hX dX3_putOut_71 0 rfl ?_
          refine g_ifN_eq (pc := 73) (tgt := 82) hX (by omega) dX3_putOut_73 (by decide) (fun c73 => absurd c73 (by omega)) (fun c73 => ?_)
          refine g_iload_n (pc := 76) hX dX3_putOut_76 rfl 2 rfl ?_
          refine g_iconst (pc := 77) (v := (nI 2)) hX dX3_putOut_77 (by decide) ?_
          refine g_iaddN (pc := 78) (r := (4 * t) + 2) hX dX3_putOut_78 (by first | rfl | omega) ?_
          refine g_goto (pc := 79) (tgt := 85) hX dX3_putOut_79 (by decide) ?_
          refine g_aload_n (pc := 85) hX dX3_putOut_85 rfl 3 rfl ?_
          refine g_get (pc := 86) (C := RX3) (T := TX3) (N := 11) (ci := 3) (v := .int (nI (lastD a))) hX inX3_putOut_X3 0 rfl rfl 10 (by decide) flX3_putOut_65 rfl rfl dX3_putOut_86 ?_
          refine g_cv (pc := 89) hX (wc := [(m, .inr (3, [.ref (am 0), .ref (am 1), .ref (am 2), .ref (am 3), .ref (am 4), .ref (am 5), .ref (am 6), .ref (am 7), .int rd, .int wr, .int (nI (lastD a))])), (am 0, .inl (K.2.1, 2, .inl po)), (am 1, .inl (K.2.1, 2, .inl ca)), (am 2, .inl (K.2.1, 2, .inl go)), (am 3, .inl (K.2.1, 8, .inl u64)), (am 4, .inl (K.2.1, 160, .inl pg)), (am 5, .inl (K.2.2.1, 128, .inl mk)), (am 6, .inl (K.2.2.1, 128, .inl we)), (am 7, .inl (K.2.1, 6, .inl co))]) (wr := []) (Wd' := fun u89 => [(m, .inr (3, [.ref (am 0), .ref (am 1), .ref (am 2), .ref (am 3), .ref (am 4), .ref (am 5), .ref (am 6), .ref (am 7), .int rd, .int wr, .int (nI (lastD a))])), (am 0, .inl (K.2.1, 2, .inl po)), (am 1, .inl (K.2.1, 2, .inl ca)), (am 2, .inl (K.2.1, 2, .inl go)), (am 3, .inl (K.2.1, 8, .inl u89.1)), (am 4, .inl (K.2.1, 160, .inl u89.2)), (am 5, .inl (K.2.2.1, 128, .inl mk)), (am 6, .inl (K.2.2.1, 128, .inl we)), (am 7, .inl (K.2.1, 6, .inl co))]) (g_goV (pc := 89) hX (As := [.int (nI ((4 * t) + 2)), .int (nI (lastD a))]) (stk := []) (wc := [(m, .inr (3, [.ref (am 0), .ref (am 1), .ref (am 2), .ref (am 3), .ref (am 4), .ref (am 5), .ref (am 6), .ref (am 7), .int rd, .int wr, .int (nI (lastD a))])), (am 0, .inl (K.2.1, 2, .inl po)), (am 1, .inl (K.2.1, 2, .inl ca)), (am 2, .inl (K.2.1, 2, .inl go)), (am 3, .inl (K.2.1, 8, .inl u64)), (am 4, .inl (K.2.1, 160, .inl pg)), (am 5, .inl (K.2.2.1, 128, .inl mk)), (am 6, .inl (K.2.2.1, 128, .inl we)), (am 7, .inl (K.2.1, 6, .inl co))]) (c_X3_toHead l K m am po ca go u64 pg mk we co rd wr (nI (lastD a)) (rr t a.dropLast b d e RO) hR64 ((4 * t) + 2) (by omega) (lastD a) hv64 (by rw [rr_2]; show d.length + 1 ≤ 20; omega)) rfl rfl rfl gX3_putOut_X3_toHead nX3_toHeadV rfl 0 rfl ⟨(Nat.le_of_ble_eq_true rfl), (Nat.le_of_ble_eq_true rfl)⟩ [0, 1, 2, 3, 4, 5, 6, 7, 8] rfl rfl rfl (Nat.le_of_ble_eq_true rfl) dX3_putOut_89 ⟨(Nat.le_of_ble_eq_true rfl), (Nat.le_of_ble_eq_true rfl)⟩) [0, 1, 2, 3, 4, 5, 6, 7, 8] [] [0, 1, 2, 3, 4, 5, 6, 7, 8] rfl rfl rfl (by decide) rfl (fun _ => rfl) (fun u89 h89 => ?_)
          have hR89 := h89
          rw [rr_2, rr_u2] at hR89
          rw [show sOut g f3 a b d e = (lastD a, a.dropLast, b, lastD a :: d, e) from if_pos hF] at hs
          cases hs
          exact hret (u := (u89.1, u89.2, (nI (lastD a)))) dX3_putOut_92 (⟨hR89, rfl⟩) rfl
abbrev rmX3_back : Room := { frames := 3, cells := 0, slots := 0, locals := 70 }
theorem flX3_back_19 : Cond.fieldLink RX3 19 "TwoTierCacheModel" "lengths" "[I" ∈ wsX3_back := by decide +kernel
theorem inX3_back_X3 : ∀ w ∈ u_ws RX3 TX3 11, w ∈ wsX3_back := by decide +kernel
theorem flX3_back_16 : Cond.fieldLink RX3 16 "TwoTierCacheModel" "goals" "[I" ∈ wsX3_back := by decide +kernel
theorem nX3_greaterS : yX3_greater.cls ≠ "java/lang/invoke/MethodHandle" ∧ yX3_greater.cls ≠ "java/lang/invoke/VarHandle" ∧ (parseMethodDescriptor yX3_greater.desc).map (fun d => d.parameters.length) = some 2 := by decide +kernel
theorem flX3_back_13 : Cond.fieldLink RX3 13 "TwoTierCacheModel" "capacities" "[I" ∈ wsX3_back := by decide +kernel
theorem nX3_putOutV : yX3_putOut.cls = RX3 ∧ yX3_putOut.cls ≠ "java/lang/invoke/MethodHandle" ∧ yX3_putOut.cls ≠ "java/lang/invoke/VarHandle" ∧ (parseMethodDescriptor yX3_putOut.desc).map (fun d => d.parameters.length) = some 2 := by decide +kernel
set_option maxHeartbeats 4000000 in
set_option maxRecDepth 100000 in
/-- back, two = true -/
theorem c_X3_back_true (l : Launch) (K : gT) (m : Nat) (am : Nat → Nat) (po ca go le pg mk we co : Nat → Int32) (rd wr vi : Int32) (t : Nat) (ht : t < 2) (c g : Nat) (a b d e : List Nat) (RO : Nat → List Nat) (hR : rowsR le pg (rr t a b d e RO)) (hca : ca t = nI c) (hgo : go t = nI g) (hc2 : c ≤ 16) (hg : g ≤ 16) (hb : sFirst (min c (g + sStep e.length d.length)) false a = false → 0 < b.length) (hbl : b.length ≤ 16) (hd : d.length ≤ 16) (he : e.length ≤ 16) (x : Nat) (hx : x < 64) (hm : x ∈ d) : Cv l yX3_back wsX3_back rmX3_back K [.ref m, .int (nI t), .int (nI x), .int (bI true)] (mW K m am po ca go le pg mk we co rd wr vi) (fun (u : (Nat → Int32) × (Nat → Int32) × Int32) => rowsR u.1 u.2.1 (rr t (sBack (min c (g + sStep e.length d.length)) false a b d e x).2.1 (sBack (min c (g + sStep e.length d.length)) false a b d e x).2.2.1 (sBack (min c (g + sStep e.length d.length)) false a b d e x).2.2.2.1 (sBack (min c (g + sStep e.length d.length)) false a b d e x).2.2.2.2 RO) ∧ u.2.2 = nI (sBack (min c (g + sStep e.length d.length)) false a b d e x).1) (fun u => mW K m am po ca (upd go t (nI (min c (g + sStep e.length d.length)))) u.1 u.2.1 mk we co rd wr u.2.2) 0 0 := by
  refine m_v (cc := cX3_back) (own := RX3) (maxL := 8) (lv0 := [(0, .ref m), (1, .int (nI t)), (2, .int (nI x)), (3, .int (bI true))]) (by decide) rfl rfl (Nat.le_of_ble_eq_true rfl) rfl ?_
  intro X hX hin hret
  refine g_ws (ws' := [(m, .inr (3, [.ref (am 0), .ref (am 1), .ref (am 2), .ref (am 3), .ref (am 4), .ref (am 5), .ref (am 6), .ref (am 7), .int rd, .int wr, .int vi])), (am 0, .inl (K.2.1, 2, .inl po)), (am 1, .inl (K.2.1, 2, .inl ca)), (am 2, .inl (K.2.1, 2, .inl go)), (am 3, .inl (K.2.1, 8, .inl le)), (am 4, .inl (K.2.1, 160, .inl pg)), (am 5, .inl (K.2.2.1, 128, .inl mk)), (am 6, .inl (K.2.2.1, 128, .inl we)), (am 7, .inl (K.2.1, 6, .inl co))]) rfl ?_
  have la := (rr_l0 hR ht).2.1
  have lb := (rr_l1 hR ht).2.1
  have ld := (rr_l2 hR ht).2.1
  have lle := (rr_l3 hR ht).2.1
  have hix := ix_lt hm
  have hdv := Nat.div_le_self e.length d.length
  have hdv2 := Nat.div_le_self d.length e.length
  refine g_iconst (pc := 0) (v := (nI 4)) hX dX3_back_0 (by decide) ?_
  refine g_iload_n (pc := 1) hX dX3_back_1 rfl 1 rfl ?_
  refine g_imulN (pc := 2) (r := 4 * t) hX dX3_back_2 (by first | rfl | omega) ?_
  refine g_istore (pc := 3) (lv' := [(4, .int (nI (4 * t))), (0, .ref m), (1, .int (nI t)), (2, .int (nI x)), (3, .int (bI true))]) hX dX3_back_3 (by decide) rfl ?_
  refine g_aload_n (pc := 5) hX dX3_back_5 rfl 1 rfl ?_
  refine g_get (pc := 6) (C := RX3) (T := TX3) (N := 11) (ci := 3) (v := .ref (am 3)) hX inX3_back_X3 0 rfl rfl 3 (by decide) flX3_back_19 rfl rfl dX3_back_6 ?_
  refine g_iload (pc := 9) hX dX3_back_9 0 rfl ?_
  refine g_iconst (pc := 11) (v := (nI 2)) hX dX3_back_11 (by decide) ?_
  refine g_iaddN (pc := 12) (r := (4 * t) + 2) hX dX3_back_12 (by first | rfl | omega) ?_
  refine g_iald (pc := 13) (v := (nI d.length)) hX 4 rfl (by omega) (by omega) (rr_l2 hR ht).1 dX3_back_13 ?_
  refine g_istore (pc := 14) (lv' := [(5, .int (nI d.length)), (4, .int (nI (4 * t))), (0, .ref m), (1, .int (nI t)), (2, .int (nI x)), (3, .int (bI true))]) hX dX3_back_14 (by decide) rfl ?_
  refine g_aload_n (pc := 16) hX dX3_back_16 rfl 2 rfl ?_
  refine g_get (pc := 17) (C := RX3) (T := TX3) (N := 11) (ci := 3) (v := .ref (am 3)) hX inX3_back_X3 0 rfl rfl 3 (by decide) flX3_back_19 rfl rfl dX3_back_17 ?_
  refine g_iload (pc := 20) hX dX3_back_20 1 rfl ?_
  refine g_iconst (pc := 22) (v := (nI 3)) hX dX3_back_22 (by decide) ?_
  refine g_iaddN (pc := 23) (r := (4 * t) + 3) hX dX3_back_23 (by first | rfl | omega) ?_
  refine g_iald (pc := 24) (v := (nI e.length)) hX 4 rfl (by omega) (by omega) (rr_l3 hR ht).1 dX3_back_24 ?_
  refine g_istore (pc := 25) (lv' := [(6, .int (nI e.length)), (5, .int (nI d.length)), (4, .int (nI (4 * t))), (0, .ref m), (1, .int (nI t)), (2, .int (nI x)), (3, .int (bI true))]) hX dX3_back_25 (by decide) rfl ?_
  refine g_iload_n (pc := 27) hX dX3_back_27 rfl 6 rfl ?_
  refine g_ifB_eq (pc := 28) (tgt := 80) hX dX3_back_28 (by decide) (fun c28 => absurd c28 (by decide)) (fun c28 => ?_)
  refine g_aload_n (pc := 31) hX dX3_back_31 rfl 3 rfl ?_
  refine g_get (pc := 32) (C := RX3) (T := TX3) (N := 11) (ci := 3) (v := .ref (am 2)) hX inX3_back_X3 0 rfl rfl 2 (by decide) flX3_back_16 rfl rfl dX3_back_32 ?_
  refine g_iload_n (pc := 35) hX dX3_back_35 rfl 4 rfl ?_
  refine g_iald (pc := 36) (v := (nI g)) hX 3 rfl (by omega) (by omega) hgo dX3_back_36 ?_
  refine g_iconst (pc := 37) (v := (nI 1)) hX dX3_back_37 (by decide) ?_
  refine g_iload (pc := 38) hX dX3_back_38 0 rfl ?_
  refine g_iload (pc := 40) hX dX3_back_40 1 rfl ?_
  refine g_idivN (pc := 42) (r := e.length / d.length) hX dX3_back_42 (by omega) (by omega) (by omega) rfl ?_
  refine g_ci (pc := 43) hX (wc := []) (wr := [(m, .inr (3, [.ref (am 0), .ref (am 1), .ref (am 2), .ref (am 3), .ref (am 4), .ref (am 5), .ref (am 6), .ref (am 7), .int rd, .int wr, .int vi])), (am 0, .inl (K.2.1, 2, .inl po)), (am 1, .inl (K.2.1, 2, .inl ca)), (am 2, .inl (K.2.1, 2, .inl go)), (am 3, .inl (K.2.1, 8, .inl le)), (am 4, .inl (K.2.1, 160, .inl pg)), (am 5, .inl (K.2.2.1, 128, .inl mk)), (am 6, .inl (K.2.2.1, 128, .inl we)), (am 7, .inl (K.2.1, 6, .inl co))]) (Wd' := fun u => [(m, .inr (3, [.ref (am 0), .ref (am 1), .ref (am 2), .ref (am 3), .ref (am 4), .ref (am 5), .ref (am 6), .ref (am 7), .int rd, .int wr, .int vi])), (am 0, .inl (K.2.1, 2, .inl po)), (am 1, .inl (K.2.1, 2, .inl ca)), (am 2, .inl (K.2.1, 2, .inl go)), (am 3, .inl (K.2.1, 8, .inl le)), (am 4, .inl (K.2.1, 160, .inl pg)), (am 5, .inl (K.2.2.1, 128, .inl mk)), (am 6, .inl (K.2.2.1, 128, .inl we)), (am 7, .inl (K.2.1, 6, .inl co))]) (g_goS (pc := 43) hX (As := [.int (nI 1), .int (nI (e.length / d.length))]) (stk := [.int (nI g)]) (wc := []) (c_X3_greater l K (nI 1) (nI (e.length / d.length))) rfl rfl rfl gX3_back_X3_greater nX3_greaterS ⟨(Nat.le_of_ble_eq_true rfl), (Nat.le_of_ble_eq_true rfl)⟩ [] rfl rfl rfl (Nat.le_of_ble_eq_true rfl) dX3_back_43 ⟨(Nat.le_of_ble_eq_true rfl), (Nat.le_of_ble_eq_true rfl)⟩) [] [0, 1, 2, 3, 4, 5, 6, 7, 8] [0, 1, 2, 3, 4, 5, 6, 7, 8] rfl rfl rfl (by decide) rfl (fun _ => rfl) (fun r u h43 => ?_)
  obtain rfl := h43
  refine g_top (y := (nI (max 1 (e.length / d.length)))) (mm_max2 (by omega) (Nat.lt_of_le_of_lt (Nat.div_le_self _ _) (by omega))) ?_
  refine g_iaddN (pc := 46) (r := g + (max 1 (e.length / d.length))) hX dX3_back_46 (by first | rfl | omega) ?_
  refine g_istore (pc := 47) (lv' := [(7, .int (nI (g + (max 1 (e.length / d.length))))), (6, .int (nI e.length)), (5, .int (nI d.length)), (4, .int (nI (4 * t))), (0, .ref m), (1, .int (nI t)), (2, .int (nI x)), (3, .int (bI true))]) hX dX3_back_47 (by decide) rfl ?_
  refine g_aload_n (pc := 49) hX dX3_back_49 rfl 4 rfl ?_
  refine g_get (pc := 50) (C := RX3) (T := TX3) (N := 11) (ci := 3) (v := .ref (am 2)) hX inX3_back_X3 0 rfl rfl 2 (by decide) flX3_back_16 rfl rfl dX3_back_50 ?_
  refine g_iload_n (pc := 53) hX dX3_back_53 rfl 5 rfl ?_
  refine g_iload (pc := 54) hX dX3_back_54 0 rfl ?_
  refine g_aload_n (pc := 56) hX dX3_back_56 rfl 4 rfl ?_
  refine g_get (pc := 57) (C := RX3) (T := TX3) (N := 11) (ci := 3) (v := .ref (am 1)) hX inX3_back_X3 0 rfl rfl 1 (by decide) flX3_back_13 rfl rfl dX3_back_57 ?_
  refine g_iload_n (pc := 60) hX dX3_back_60 rfl 5 rfl ?_
  refine g_iald (pc := 61) (v := (nI c)) hX 2 rfl (by omega) (by omega) hca dX3_back_61 ?_
  refine g_icmpN_le (pc := 62) (tgt := 74) hX (by omega) (by omega) dX3_back_62 (by decide) (fun c62 => ?_) (fun c62 => ?_)
  · refine g_iload (pc := 74) hX dX3_back_74 0 rfl ?_
    refine g_iast (pc := 76) (ws' := [(m, .inr (3, [.ref (am 0), .ref (am 1), .ref (am 2), .ref (am 3), .ref (am 4), .ref (am 5), .ref (am 6), .ref (am 7), .int rd, .int wr, .int vi])), (am 0, .inl (K.2.1, 2, .inl po)), (am 1, .inl (K.2.1, 2, .inl ca)), (am 2, .inl (K.2.1, 2, .inl (upd go t (nI (g + (max 1 (e.length / d.length))))))), (am 3, .inl (K.2.1, 8, .inl le)), (am 4, .inl (K.2.1, 160, .inl pg)), (am 5, .inl (K.2.2.1, 128, .inl mk)), (am 6, .inl (K.2.2.1, 128, .inl we)), (am 7, .inl (K.2.1, 6, .inl co))]) hX 3 rfl (by omega) (by omega) rfl dX3_back_76 ?_
    refine g_goto (pc := 77) (tgt := 110) hX dX3_back_77 (by decide) ?_
    refine g_ws (ws' := [(m, .inr (3, [.ref (am 0), .ref (am 1), .ref (am 2), .ref (am 3), .ref (am 4), .ref (am 5), .ref (am 6), .ref (am 7), .int rd, .int wr, .int vi])), (am 0, .inl (K.2.1, 2, .inl po)), (am 1, .inl (K.2.1, 2, .inl ca)), (am 2, .inl (K.2.1, 2, .inl (upd go t (nI (min c (g + sStep e.length d.length)))))), (am 3, .inl (K.2.1, 8, .inl le)), (am 4, .inl (K.2.1, 160, .inl pg)), (am 5, .inl (K.2.2.1, 128, .inl mk)), (am 6, .inl (K.2.2.1, 128, .inl we)), (am 7, .inl (K.2.1, 6, .inl co))]) (by rw [show (min c (g + sStep e.length d.length)) = g + (max 1 (e.length / d.length)) by unfold sStep; omega]) ?_
    refine g_aload_n (pc := 110) hX dX3_back_110 rfl 4 rfl ?_
    refine g_iload_n (pc := 111) hX dX3_back_111 rfl 5 rfl ?_
    refine g_iload_n (pc := 112) hX dX3_back_112 rfl 7 rfl ?_
    refine g_ifB_ne (pc := 113) (tgt := 120) hX dX3_back_113 (by decide) (fun c113 => ?_) (fun c113 => absurd c113 (by decide))
    refine g_iconst (pc := 120) (v := (nI 0)) hX dX3_back_120 (by decide) ?_
    refine g_top (y := (bI false)) (by decide) ?_
    refine g_cv (pc := 121) hX (wc := [(m, .inr (3, [.ref (am 0), .ref (am 1), .ref (am 2), .ref (am 3), .ref (am 4), .ref (am 5), .ref (am 6), .ref (am 7), .int rd, .int wr, .int vi])), (am 0, .inl (K.2.1, 2, .inl po)), (am 1, .inl (K.2.1, 2, .inl ca)), (am 2, .inl (K.2.1, 2, .inl (upd go t (nI (min c (g + sStep e.length d.length)))))), (am 3, .inl (K.2.1, 8, .inl le)), (am 4, .inl (K.2.1, 160, .inl pg)), (am 5, .inl (K.2.2.1, 128, .inl mk)), (am 6, .inl (K.2.2.1, 128, .inl we)), (am 7, .inl (K.2.1, 6, .inl co))]) (wr := []) (Wd' := fun u121 => [(m, .inr (3, [.ref (am 0), .ref (am 1), .ref (am 2), .ref (am 3), .ref (am 4), .ref (am 5), .ref (am 6), .ref (am 7), .int rd, .int wr, .int u121.2.2])), (am 0, .inl (K.2.1, 2, .inl po)), (am 1, .inl (K.2.1, 2, .inl ca)), (am 2, .inl (K.2.1, 2, .inl (upd go t (nI (min c (g + sStep e.length d.length)))))), (am 3, .inl (K.2.1, 8, .inl u121.1)), (am 4, .inl (K.2.1, 160, .inl u121.2.1)), (am 5, .inl (K.2.2.1, 128, .inl mk)), (am 6, .inl (K.2.2.1, 128, .inl we)), (am 7, .inl (K.2.1, 6, .inl co))]) (g_goV (pc := 121) hX (As := [.int (nI t), .int (bI false)]) (stk := []) (wc := [(m, .inr (3, [.ref (am 0), .ref (am 1), .ref (am 2), .ref (am 3), .ref (am 4), .ref (am 5), .ref (am 6), .ref (am 7), .int rd, .int wr, .int vi])), (am 0, .inl (K.2.1, 2, .inl po)), (am 1, .inl (K.2.1, 2, .inl ca)), (am 2, .inl (K.2.1, 2, .inl (upd go t (nI (min c (g + sStep e.length d.length)))))), (am 3, .inl (K.2.1, 8, .inl le)), (am 4, .inl (K.2.1, 160, .inl pg)), (am 5, .inl (K.2.2.1, 128, .inl mk)), (am 6, .inl (K.2.2.1, 128, .inl we)), (am 7, .inl (K.2.1, 6, .inl co))]) (c_X3_putOut l K m am po ca (upd go t (nI (min c (g + sStep e.length d.length)))) le pg mk we co rd wr vi t ht c (min c (g + sStep e.length d.length)) a b d e RO hR hca pk_us (by omega) false hb (by omega) (by omega)) rfl rfl rfl gX3_back_X3_putOut nX3_putOutV rfl 0 rfl ⟨(Nat.le_of_ble_eq_true rfl), (Nat.le_of_ble_eq_true rfl)⟩ [0, 1, 2, 3, 4, 5, 6, 7, 8] rfl rfl rfl (Nat.le_of_ble_eq_true rfl) dX3_back_121 ⟨(Nat.le_of_ble_eq_true rfl), (Nat.le_of_ble_eq_true rfl)⟩) [0, 1, 2, 3, 4, 5, 6, 7, 8] [] [0, 1, 2, 3, 4, 5, 6, 7, 8] rfl rfl rfl (by decide) rfl (fun _ => rfl) (fun u121 h121 => ?_)
    obtain ⟨hR121, hvi⟩ := h121
    have hob := sOut_b (min c (g + sStep e.length d.length)) false a b d e
    have hoa := sOut_a (min c (g + sStep e.length d.length)) false a b d e
    have hm9 : x ∈ (sOut (min c (g + sStep e.length d.length)) false a b d e).2.2.2.1 := by
      unfold sOut
      by_cases q : sFirst (min c (g + sStep e.length d.length)) false a = true
      · rw [if_pos q]; exact List.mem_cons_of_mem _ hm
      · rw [if_neg q]; exact hm
    refine g_aload_n (pc := 124) hX dX3_back_124 rfl 4 rfl ?_
    refine g_iload_n (pc := 125) hX dX3_back_125 rfl 7 rfl ?_
    refine g_ifB_eq (pc := 126) (tgt := 136) hX dX3_back_126 (by decide) (fun c126 => absurd c126 (by decide)) (fun c126 => ?_)
    refine g_iload (pc := 129) hX dX3_back_129 3 rfl ?_
    refine g_iconst (pc := 131) (v := (nI 2)) hX dX3_back_131 (by decide) ?_
    refine g_iaddN (pc := 132) (r := (4 * t) + 2) hX dX3_back_132 (by first | rfl | omega) ?_
    refine g_goto (pc := 133) (tgt := 140) hX dX3_back_133 (by decide) ?_
    refine g_iload (pc := 140) hX dX3_back_140 3 rfl ?_
    refine g_iconst (pc := 142) (v := (nI 1)) hX dX3_back_142 (by decide) ?_
    refine g_iaddN (pc := 143) (r := (4 * t) + 1) hX dX3_back_143 (by first | rfl | omega) ?_
    refine g_iload_n (pc := 144) hX dX3_back_144 rfl 6 rfl ?_
    refine g_cv (pc := 145) hX (wc := [(m, .inr (3, [.ref (am 0), .ref (am 1), .ref (am 2), .ref (am 3), .ref (am 4), .ref (am 5), .ref (am 6), .ref (am 7), .int rd, .int wr, .int u121.2.2])), (am 0, .inl (K.2.1, 2, .inl po)), (am 1, .inl (K.2.1, 2, .inl ca)), (am 2, .inl (K.2.1, 2, .inl (upd go t (nI (min c (g + sStep e.length d.length)))))), (am 3, .inl (K.2.1, 8, .inl u121.1)), (am 4, .inl (K.2.1, 160, .inl u121.2.1)), (am 5, .inl (K.2.2.1, 128, .inl mk)), (am 6, .inl (K.2.2.1, 128, .inl we)), (am 7, .inl (K.2.1, 6, .inl co))]) (wr := []) (Wd' := fun u145 => [(m, .inr (3, [.ref (am 0), .ref (am 1), .ref (am 2), .ref (am 3), .ref (am 4), .ref (am 5), .ref (am 6), .ref (am 7), .int rd, .int wr, .int u121.2.2])), (am 0, .inl (K.2.1, 2, .inl po)), (am 1, .inl (K.2.1, 2, .inl ca)), (am 2, .inl (K.2.1, 2, .inl (upd go t (nI (min c (g + sStep e.length d.length)))))), (am 3, .inl (K.2.1, 8, .inl u145.1)), (am 4, .inl (K.2.1, 160, .inl u145.2)), (am 5, .inl (K.2.2.1, 128, .inl mk)), (am 6, .inl (K.2.2.1, 128, .inl we)), (am 7, .inl (K.2.1, 6, .inl co))]) (g_goV (pc := 145) hX (As := [.int (nI ((4 * t) + 2)), .int (nI ((4 * t) + 1)), .int (nI x)]) (stk := []) (wc := [(m, .inr (3, [.ref (am 0), .ref (am 1), .ref (am 2), .ref (am 3), .ref (am 4), .ref (am 5), .ref (am 6), .ref (am 7), .int rd, .int wr, .int u121.2.2])), (am 0, .inl (K.2.1, 2, .inl po)), (am 1, .inl (K.2.1, 2, .inl ca)), (am 2, .inl (K.2.1, 2, .inl (upd go t (nI (min c (g + sStep e.length d.length)))))), (am 3, .inl (K.2.1, 8, .inl u121.1)), (am 4, .inl (K.2.1, 160, .inl u121.2.1)), (am 5, .inl (K.2.2.1, 128, .inl mk)), (am 6, .inl (K.2.2.1, 128, .inl we)), (am 7, .inl (K.2.1, 6, .inl co))]) (c_X3_move l K m am po ca (upd go t (nI (min c (g + sStep e.length d.length)))) u121.1 u121.2.1 mk we co rd wr u121.2.2 (rr t ((sOut (min c (g + sStep e.length d.length)) false a b d e).2.1) ((sOut (min c (g + sStep e.length d.length)) false a b d e).2.2.1) ((sOut (min c (g + sStep e.length d.length)) false a b d e).2.2.2.1) ((sOut (min c (g + sStep e.length d.length)) false a b d e).2.2.2.2) RO) hR121 ((4 * t) + 2) ((4 * t) + 1) (by omega) (by omega) x hx (by rw [rr_2]; exact hm9) (by rw [rr_2, rr_u2, rr_1]; show ((sOut (min c (g + sStep e.length d.length)) false a b d e).2.2.1).length + 1 ≤ 20; omega)) rfl rfl rfl gX3_back_X3_move nX3_moveV rfl 0 rfl ⟨(Nat.le_of_ble_eq_true rfl), (Nat.le_of_ble_eq_true rfl)⟩ [0, 1, 2, 3, 4, 5, 6, 7, 8] rfl rfl rfl (Nat.le_of_ble_eq_true rfl) dX3_back_145 ⟨(Nat.le_of_ble_eq_true rfl), (Nat.le_of_ble_eq_true rfl)⟩) [0, 1, 2, 3, 4, 5, 6, 7, 8] [] [0, 1, 2, 3, 4, 5, 6, 7, 8] rfl rfl rfl (by decide) rfl (fun _ => rfl) (fun u145 h145 => ?_)
    have hR145 := h145
    rw [rr_2, rr_u2, rr_1, rr_u1] at hR145
    exact hret (u := (u145.1, u145.2, u121.2.2)) dX3_back_148 (⟨hR145, hvi⟩) rfl
  · refine g_aload_n (pc := 65) hX dX3_back_65 rfl 4 rfl ?_
    refine g_get (pc := 66) (C := RX3) (T := TX3) (N := 11) (ci := 3) (v := .ref (am 1)) hX inX3_back_X3 0 rfl rfl 1 (by decide) flX3_back_13 rfl rfl dX3_back_66 ?_
    refine g_iload_n (pc := 69) hX dX3_back_69 rfl 5 rfl ?_
    refine g_iald (pc := 70) (v := (nI c)) hX 2 rfl (by omega) (by omega) hca dX3_back_70 ?_
    refine g_goto (pc := 71) (tgt := 76) hX dX3_back_71 (by decide) ?_
    refine g_iast (pc := 76) (ws' := [(m, .inr (3, [.ref (am 0), .ref (am 1), .ref (am 2), .ref (am 3), .ref (am 4), .ref (am 5), .ref (am 6), .ref (am 7), .int rd, .int wr, .int vi])), (am 0, .inl (K.2.1, 2, .inl po)), (am 1, .inl (K.2.1, 2, .inl ca)), (am 2, .inl (K.2.1, 2, .inl (upd go t (nI c)))), (am 3, .inl (K.2.1, 8, .inl le)), (am 4, .inl (K.2.1, 160, .inl pg)), (am 5, .inl (K.2.2.1, 128, .inl mk)), (am 6, .inl (K.2.2.1, 128, .inl we)), (am 7, .inl (K.2.1, 6, .inl co))]) hX 3 rfl (by omega) (by omega) rfl dX3_back_76 ?_
    refine g_goto (pc := 77) (tgt := 110) hX dX3_back_77 (by decide) ?_
    refine g_ws (ws' := [(m, .inr (3, [.ref (am 0), .ref (am 1), .ref (am 2), .ref (am 3), .ref (am 4), .ref (am 5), .ref (am 6), .ref (am 7), .int rd, .int wr, .int vi])), (am 0, .inl (K.2.1, 2, .inl po)), (am 1, .inl (K.2.1, 2, .inl ca)), (am 2, .inl (K.2.1, 2, .inl (upd go t (nI (min c (g + sStep e.length d.length)))))), (am 3, .inl (K.2.1, 8, .inl le)), (am 4, .inl (K.2.1, 160, .inl pg)), (am 5, .inl (K.2.2.1, 128, .inl mk)), (am 6, .inl (K.2.2.1, 128, .inl we)), (am 7, .inl (K.2.1, 6, .inl co))]) (by rw [show (min c (g + sStep e.length d.length)) = c by unfold sStep; omega]) ?_
    refine g_aload_n (pc := 110) hX dX3_back_110 rfl 4 rfl ?_
    refine g_iload_n (pc := 111) hX dX3_back_111 rfl 5 rfl ?_
    refine g_iload_n (pc := 112) hX dX3_back_112 rfl 7 rfl ?_
    refine g_ifB_ne (pc := 113) (tgt := 120) hX dX3_back_113 (by decide) (fun c113 => ?_) (fun c113 => absurd c113 (by decide))
    refine g_iconst (pc := 120) (v := (nI 0)) hX dX3_back_120 (by decide) ?_
    refine g_top (y := (bI false)) (by decide) ?_
    refine g_cv (pc := 121) hX (wc := [(m, .inr (3, [.ref (am 0), .ref (am 1), .ref (am 2), .ref (am 3), .ref (am 4), .ref (am 5), .ref (am 6), .ref (am 7), .int rd, .int wr, .int vi])), (am 0, .inl (K.2.1, 2, .inl po)), (am 1, .inl (K.2.1, 2, .inl ca)), (am 2, .inl (K.2.1, 2, .inl (upd go t (nI (min c (g + sStep e.length d.length)))))), (am 3, .inl (K.2.1, 8, .inl le)), (am 4, .inl (K.2.1, 160, .inl pg)), (am 5, .inl (K.2.2.1, 128, .inl mk)), (am 6, .inl (K.2.2.1, 128, .inl we)), (am 7, .inl (K.2.1, 6, .inl co))]) (wr := []) (Wd' := fun u121 => [(m, .inr (3, [.ref (am 0), .ref (am 1), .ref (am 2), .ref (am 3), .ref (am 4), .ref (am 5), .ref (am 6), .ref (am 7), .int rd, .int wr, .int u121.2.2])), (am 0, .inl (K.2.1, 2, .inl po)), (am 1, .inl (K.2.1, 2, .inl ca)), (am 2, .inl (K.2.1, 2, .inl (upd go t (nI (min c (g + sStep e.length d.length)))))), (am 3, .inl (K.2.1, 8, .inl u121.1)), (am 4, .inl (K.2.1, 160, .inl u121.2.1)), (am 5, .inl (K.2.2.1, 128, .inl mk)), (am 6, .inl (K.2.2.1, 128, .inl we)), (am 7, .inl (K.2.1, 6, .inl co))]) (g_goV (pc := 121) hX (As := [.int (nI t), .int (bI false)]) (stk := []) (wc := [(m, .inr (3, [.ref (am 0), .ref (am 1), .ref (am 2), .ref (am 3), .ref (am 4), .ref (am 5), .ref (am 6), .ref (am 7), .int rd, .int wr, .int vi])), (am 0, .inl (K.2.1, 2, .inl po)), (am 1, .inl (K.2.1, 2, .inl ca)), (am 2, .inl (K.2.1, 2, .inl (upd go t (nI (min c (g + sStep e.length d.length)))))), (am 3, .inl (K.2.1, 8, .inl le)), (am 4, .inl (K.2.1, 160, .inl pg)), (am 5, .inl (K.2.2.1, 128, .inl mk)), (am 6, .inl (K.2.2.1, 128, .inl we)), (am 7, .inl (K.2.1, 6, .inl co))]) (c_X3_putOut l K m am po ca (upd go t (nI (min c (g + sStep e.length d.length)))) le pg mk we co rd wr vi t ht c (min c (g + sStep e.length d.length)) a b d e RO hR hca pk_us (by omega) false hb (by omega) (by omega)) rfl rfl rfl gX3_back_X3_putOut nX3_putOutV rfl 0 rfl ⟨(Nat.le_of_ble_eq_true rfl), (Nat.le_of_ble_eq_true rfl)⟩ [0, 1, 2, 3, 4, 5, 6, 7, 8] rfl rfl rfl (Nat.le_of_ble_eq_true rfl) dX3_back_121 ⟨(Nat.le_of_ble_eq_true rfl), (Nat.le_of_ble_eq_true rfl)⟩) [0, 1, 2, 3, 4, 5, 6, 7, 8] [] [0, 1, 2, 3, 4, 5, 6, 7, 8] rfl rfl rfl (by decide) rfl (fun _ => rfl) (fun u121 h121 => ?_)
    obtain ⟨hR121, hvi⟩ := h121
    have hob := sOut_b (min c (g + sStep e.length d.length)) false a b d e
    have hoa := sOut_a (min c (g + sStep e.length d.length)) false a b d e
    have hm9 : x ∈ (sOut (min c (g + sStep e.length d.length)) false a b d e).2.2.2.1 := by
      unfold sOut
      by_cases q : sFirst (min c (g + sStep e.length d.length)) false a = true
      · rw [if_pos q]; exact List.mem_cons_of_mem _ hm
      · rw [if_neg q]; exact hm
    refine g_aload_n (pc := 124) hX dX3_back_124 rfl 4 rfl ?_
    refine g_iload_n (pc := 125) hX dX3_back_125 rfl 7 rfl ?_
    refine g_ifB_eq (pc := 126) (tgt := 136) hX dX3_back_126 (by decide) (fun c126 => absurd c126 (by decide)) (fun c126 => ?_)
    refine g_iload (pc := 129) hX dX3_back_129 3 rfl ?_
    refine g_iconst (pc := 131) (v := (nI 2)) hX dX3_back_131 (by decide) ?_
    refine g_iaddN (pc := 132) (r := (4 * t) + 2) hX dX3_back_132 (by first | rfl | omega) ?_
    refine g_goto (pc := 133) (tgt := 140) hX dX3_back_133 (by decide) ?_
    refine g_iload (pc := 140) hX dX3_back_140 3 rfl ?_
    refine g_iconst (pc := 142) (v := (nI 1)) hX dX3_back_142 (by decide) ?_
    refine g_iaddN (pc := 143) (r := (4 * t) + 1) hX dX3_back_143 (by first | rfl | omega) ?_
    refine g_iload_n (pc := 144) hX dX3_back_144 rfl 6 rfl ?_
    refine g_cv (pc := 145) hX (wc := [(m, .inr (3, [.ref (am 0), .ref (am 1), .ref (am 2), .ref (am 3), .ref (am 4), .ref (am 5), .ref (am 6), .ref (am 7), .int rd, .int wr, .int u121.2.2])), (am 0, .inl (K.2.1, 2, .inl po)), (am 1, .inl (K.2.1, 2, .inl ca)), (am 2, .inl (K.2.1, 2, .inl (upd go t (nI (min c (g + sStep e.length d.length)))))), (am 3, .inl (K.2.1, 8, .inl u121.1)), (am 4, .inl (K.2.1, 160, .inl u121.2.1)), (am 5, .inl (K.2.2.1, 128, .inl mk)), (am 6, .inl (K.2.2.1, 128, .inl we)), (am 7, .inl (K.2.1, 6, .inl co))]) (wr := []) (Wd' := fun u145 => [(m, .inr (3, [.ref (am 0), .ref (am 1), .ref (am 2), .ref (am 3), .ref (am 4), .ref (am 5), .ref (am 6), .ref (am 7), .int rd, .int wr, .int u121.2.2])), (am 0, .inl (K.2.1, 2, .inl po)), (am 1, .inl (K.2.1, 2, .inl ca)), (am 2, .inl (K.2.1, 2, .inl (upd go t (nI (min c (g + sStep e.length d.length)))))), (am 3, .inl (K.2.1, 8, .inl u145.1)), (am 4, .inl (K.2.1, 160, .inl u145.2)), (am 5, .inl (K.2.2.1, 128, .inl mk)), (am 6, .inl (K.2.2.1, 128, .inl we)), (am 7, .inl (K.2.1, 6, .inl co))]) (g_goV (pc := 145) hX (As := [.int (nI ((4 * t) + 2)), .int (nI ((4 * t) + 1)), .int (nI x)]) (stk := []) (wc := [(m, .inr (3, [.ref (am 0), .ref (am 1), .ref (am 2), .ref (am 3), .ref (am 4), .ref (am 5), .ref (am 6), .ref (am 7), .int rd, .int wr, .int u121.2.2])), (am 0, .inl (K.2.1, 2, .inl po)), (am 1, .inl (K.2.1, 2, .inl ca)), (am 2, .inl (K.2.1, 2, .inl (upd go t (nI (min c (g + sStep e.length d.length)))))), (am 3, .inl (K.2.1, 8, .inl u121.1)), (am 4, .inl (K.2.1, 160, .inl u121.2.1)), (am 5, .inl (K.2.2.1, 128, .inl mk)), (am 6, .inl (K.2.2.1, 128, .inl we)), (am 7, .inl (K.2.1, 6, .inl co))]) (c_X3_move l K m am po ca (upd go t (nI (min c (g + sStep e.length d.length)))) u121.1 u121.2.1 mk we co rd wr u121.2.2 (rr t ((sOut (min c (g + sStep e.length d.length)) false a b d e).2.1) ((sOut (min c (g + sStep e.length d.length)) false a b d e).2.2.1) ((sOut (min c (g + sStep e.length d.length)) false a b d e).2.2.2.1) ((sOut (min c (g + sStep e.length d.length)) false a b d e).2.2.2.2) RO) hR121 ((4 * t) + 2) ((4 * t) + 1) (by omega) (by omega) x hx (by rw [rr_2]; exact hm9) (by rw [rr_2, rr_u2, rr_1]; show ((sOut (min c (g + sStep e.length d.length)) false a b d e).2.2.1).length + 1 ≤ 20; omega)) rfl rfl rfl gX3_back_X3_move nX3_moveV rfl 0 rfl ⟨(Nat.le_of_ble_eq_true rfl), (Nat.le_of_ble_eq_true rfl)⟩ [0, 1, 2, 3, 4, 5, 6, 7, 8] rfl rfl rfl (Nat.le_of_ble_eq_true rfl) dX3_back_145 ⟨(Nat.le_of_ble_eq_true rfl), (Nat.le_of_ble_eq_true rfl)⟩) [0, 1, 2, 3, 4, 5, 6, 7, 8] [] [0, 1, 2, 3, 4, 5, 6, 7, 8] rfl rfl rfl (by decide) rfl (fun _ => rfl) (fun u145 h145 => ?_)
    have hR145 := h145
    rw [rr_2, rr_u2, rr_1, rr_u1] at hR145
    exact hret (u := (u145.1, u145.2, u121.2.2)) dX3_back_148 (⟨hR145, hvi⟩) rfl
set_option maxHeartbeats 4000000 in
set_option maxRecDepth 100000 in
/-- back, two = false -/
theorem c_X3_back_false (l : Launch) (K : gT) (m : Nat) (am : Nat → Nat) (po ca go le pg mk we co : Nat → Int32) (rd wr vi : Int32) (t : Nat) (ht : t < 2) (c g : Nat) (a b d e : List Nat) (RO : Nat → List Nat) (hR : rowsR le pg (rr t a b d e RO)) (hca : ca t = nI c) (hgo : go t = nI g) (hc2 : c ≤ 16) (hg : g ≤ 16) (hb : sFirst (g - sStep d.length e.length) true a = false → 0 < b.length) (hbl : b.length ≤ 16) (hd : d.length ≤ 16) (he : e.length ≤ 16) (x : Nat) (hx : x < 64) (hm : x ∈ e) : Cv l yX3_back wsX3_back rmX3_back K [.ref m, .int (nI t), .int (nI x), .int (bI false)] (mW K m am po ca go le pg mk we co rd wr vi) (fun (u : (Nat → Int32) × (Nat → Int32) × Int32) => rowsR u.1 u.2.1 (rr t (sBack (g - sStep d.length e.length) true a b d e x).2.1 (sBack (g - sStep d.length e.length) true a b d e x).2.2.1 (sBack (g - sStep d.length e.length) true a b d e x).2.2.2.1 (sBack (g - sStep d.length e.length) true a b d e x).2.2.2.2 RO) ∧ u.2.2 = nI (sBack (g - sStep d.length e.length) true a b d e x).1) (fun u => mW K m am po ca (upd go t (nI (g - sStep d.length e.length))) u.1 u.2.1 mk we co rd wr u.2.2) 0 0 := by
  refine m_v (cc := cX3_back) (own := RX3) (maxL := 8) (lv0 := [(0, .ref m), (1, .int (nI t)), (2, .int (nI x)), (3, .int (bI false))]) (by decide) rfl rfl (Nat.le_of_ble_eq_true rfl) rfl ?_
  intro X hX hin hret
  refine g_ws (ws' := [(m, .inr (3, [.ref (am 0), .ref (am 1), .ref (am 2), .ref (am 3), .ref (am 4), .ref (am 5), .ref (am 6), .ref (am 7), .int rd, .int wr, .int vi])), (am 0, .inl (K.2.1, 2, .inl po)), (am 1, .inl (K.2.1, 2, .inl ca)), (am 2, .inl (K.2.1, 2, .inl go)), (am 3, .inl (K.2.1, 8, .inl le)), (am 4, .inl (K.2.1, 160, .inl pg)), (am 5, .inl (K.2.2.1, 128, .inl mk)), (am 6, .inl (K.2.2.1, 128, .inl we)), (am 7, .inl (K.2.1, 6, .inl co))]) rfl ?_
  have la := (rr_l0 hR ht).2.1
  have lb := (rr_l1 hR ht).2.1
  have ld := (rr_l2 hR ht).2.1
  have lle := (rr_l3 hR ht).2.1
  have hix := ix_lt hm
  have hdv := Nat.div_le_self e.length d.length
  have hdv2 := Nat.div_le_self d.length e.length
  refine g_iconst (pc := 0) (v := (nI 4)) hX dX3_back_0 (by decide) ?_
  refine g_iload_n (pc := 1) hX dX3_back_1 rfl 1 rfl ?_
  refine g_imulN (pc := 2) (r := 4 * t) hX dX3_back_2 (by first | rfl | omega) ?_
  refine g_istore (pc := 3) (lv' := [(4, .int (nI (4 * t))), (0, .ref m), (1, .int (nI t)), (2, .int (nI x)), (3, .int (bI false))]) hX dX3_back_3 (by decide) rfl ?_
  refine g_aload_n (pc := 5) hX dX3_back_5 rfl 1 rfl ?_
  refine g_get (pc := 6) (C := RX3) (T := TX3) (N := 11) (ci := 3) (v := .ref (am 3)) hX inX3_back_X3 0 rfl rfl 3 (by decide) flX3_back_19 rfl rfl dX3_back_6 ?_
  refine g_iload (pc := 9) hX dX3_back_9 0 rfl ?_
  refine g_iconst (pc := 11) (v := (nI 2)) hX dX3_back_11 (by decide) ?_
  refine g_iaddN (pc := 12) (r := (4 * t) + 2) hX dX3_back_12 (by first | rfl | omega) ?_
  refine g_iald (pc := 13) (v := (nI d.length)) hX 4 rfl (by omega) (by omega) (rr_l2 hR ht).1 dX3_back_13 ?_
  refine g_istore (pc := 14) (lv' := [(5, .int (nI d.length)), (4, .int (nI (4 * t))), (0, .ref m), (1, .int (nI t)), (2, .int (nI x)), (3, .int (bI false))]) hX dX3_back_14 (by decide) rfl ?_
  refine g_aload_n (pc := 16) hX dX3_back_16 rfl 2 rfl ?_
  refine g_get (pc := 17) (C := RX3) (T := TX3) (N := 11) (ci := 3) (v := .ref (am 3)) hX inX3_back_X3 0 rfl rfl 3 (by decide) flX3_back_19 rfl rfl dX3_back_17 ?_
  refine g_iload (pc := 20) hX dX3_back_20 1 rfl ?_
  refine g_iconst (pc := 22) (v := (nI 3)) hX dX3_back_22 (by decide) ?_
  refine g_iaddN (pc := 23) (r := (4 * t) + 3) hX dX3_back_23 (by first | rfl | omega) ?_
  refine g_iald (pc := 24) (v := (nI e.length)) hX 4 rfl (by omega) (by omega) (rr_l3 hR ht).1 dX3_back_24 ?_
  refine g_istore (pc := 25) (lv' := [(6, .int (nI e.length)), (5, .int (nI d.length)), (4, .int (nI (4 * t))), (0, .ref m), (1, .int (nI t)), (2, .int (nI x)), (3, .int (bI false))]) hX dX3_back_25 (by decide) rfl ?_
  refine g_iload_n (pc := 27) hX dX3_back_27 rfl 6 rfl ?_
  refine g_ifB_eq (pc := 28) (tgt := 80) hX dX3_back_28 (by decide) (fun c28 => ?_) (fun c28 => absurd c28 (by decide))
  refine g_aload_n (pc := 80) hX dX3_back_80 rfl 3 rfl ?_
  refine g_get (pc := 81) (C := RX3) (T := TX3) (N := 11) (ci := 3) (v := .ref (am 2)) hX inX3_back_X3 0 rfl rfl 2 (by decide) flX3_back_16 rfl rfl dX3_back_81 ?_
  refine g_iload_n (pc := 84) hX dX3_back_84 rfl 4 rfl ?_
  refine g_iald (pc := 85) (v := (nI g)) hX 3 rfl (by omega) (by omega) hgo dX3_back_85 ?_
  refine g_iconst (pc := 86) (v := (nI 1)) hX dX3_back_86 (by decide) ?_
  refine g_iload (pc := 87) hX dX3_back_87 1 rfl ?_
  refine g_iload (pc := 89) hX dX3_back_89 0 rfl ?_
  refine g_idivN (pc := 91) (r := d.length / e.length) hX dX3_back_91 (by omega) (by omega) (by omega) rfl ?_
  refine g_ci (pc := 92) hX (wc := []) (wr := [(m, .inr (3, [.ref (am 0), .ref (am 1), .ref (am 2), .ref (am 3), .ref (am 4), .ref (am 5), .ref (am 6), .ref (am 7), .int rd, .int wr, .int vi])), (am 0, .inl (K.2.1, 2, .inl po)), (am 1, .inl (K.2.1, 2, .inl ca)), (am 2, .inl (K.2.1, 2, .inl go)), (am 3, .inl (K.2.1, 8, .inl le)), (am 4, .inl (K.2.1, 160, .inl pg)), (am 5, .inl (K.2.2.1, 128, .inl mk)), (am 6, .inl (K.2.2.1, 128, .inl we)), (am 7, .inl (K.2.1, 6, .inl co))]) (Wd' := fun u => [(m, .inr (3, [.ref (am 0), .ref (am 1), .ref (am 2), .ref (am 3), .ref (am 4), .ref (am 5), .ref (am 6), .ref (am 7), .int rd, .int wr, .int vi])), (am 0, .inl (K.2.1, 2, .inl po)), (am 1, .inl (K.2.1, 2, .inl ca)), (am 2, .inl (K.2.1, 2, .inl go)), (am 3, .inl (K.2.1, 8, .inl le)), (am 4, .inl (K.2.1, 160, .inl pg)), (am 5, .inl (K.2.2.1, 128, .inl mk)), (am 6, .inl (K.2.2.1, 128, .inl we)), (am 7, .inl (K.2.1, 6, .inl co))]) (g_goS (pc := 92) hX (As := [.int (nI 1), .int (nI (d.length / e.length))]) (stk := [.int (nI g)]) (wc := []) (c_X3_greater l K (nI 1) (nI (d.length / e.length))) rfl rfl rfl gX3_back_X3_greater nX3_greaterS ⟨(Nat.le_of_ble_eq_true rfl), (Nat.le_of_ble_eq_true rfl)⟩ [] rfl rfl rfl (Nat.le_of_ble_eq_true rfl) dX3_back_92 ⟨(Nat.le_of_ble_eq_true rfl), (Nat.le_of_ble_eq_true rfl)⟩) [] [0, 1, 2, 3, 4, 5, 6, 7, 8] [0, 1, 2, 3, 4, 5, 6, 7, 8] rfl rfl rfl (by decide) rfl (fun _ => rfl) (fun r u h92 => ?_)
  obtain rfl := h92
  refine g_top (y := (nI (max 1 (d.length / e.length)))) (mm_max2 (by omega) (Nat.lt_of_le_of_lt (Nat.div_le_self _ _) (by omega))) ?_
  refine g_isub (pc := 95) (z := (nI g) - (nI (max 1 (d.length / e.length)))) hX dX3_back_95 rfl ?_
  refine g_istore (pc := 96) (lv' := [(7, .int ((nI g) - (nI (max 1 (d.length / e.length))))), (6, .int (nI e.length)), (5, .int (nI d.length)), (4, .int (nI (4 * t))), (0, .ref m), (1, .int (nI t)), (2, .int (nI x)), (3, .int (bI false))]) hX dX3_back_96 (by decide) rfl ?_
  refine g_aload_n (pc := 98) hX dX3_back_98 rfl 4 rfl ?_
  refine g_get (pc := 99) (C := RX3) (T := TX3) (N := 11) (ci := 3) (v := .ref (am 2)) hX inX3_back_X3 0 rfl rfl 2 (by decide) flX3_back_16 rfl rfl dX3_back_99 ?_
  refine g_iload_n (pc := 102) hX dX3_back_102 rfl 5 rfl ?_
  refine g_iconst (pc := 103) (v := (nI 0)) hX dX3_back_103 (by decide) ?_
  refine g_iload (pc := 104) hX dX3_back_104 0 rfl ?_
  refine g_ci (pc := 106) hX (wc := []) (wr := [(m, .inr (3, [.ref (am 0), .ref (am 1), .ref (am 2), .ref (am 3), .ref (am 4), .ref (am 5), .ref (am 6), .ref (am 7), .int rd, .int wr, .int vi])), (am 0, .inl (K.2.1, 2, .inl po)), (am 1, .inl (K.2.1, 2, .inl ca)), (am 2, .inl (K.2.1, 2, .inl go)), (am 3, .inl (K.2.1, 8, .inl le)), (am 4, .inl (K.2.1, 160, .inl pg)), (am 5, .inl (K.2.2.1, 128, .inl mk)), (am 6, .inl (K.2.2.1, 128, .inl we)), (am 7, .inl (K.2.1, 6, .inl co))]) (Wd' := fun u => [(m, .inr (3, [.ref (am 0), .ref (am 1), .ref (am 2), .ref (am 3), .ref (am 4), .ref (am 5), .ref (am 6), .ref (am 7), .int rd, .int wr, .int vi])), (am 0, .inl (K.2.1, 2, .inl po)), (am 1, .inl (K.2.1, 2, .inl ca)), (am 2, .inl (K.2.1, 2, .inl go)), (am 3, .inl (K.2.1, 8, .inl le)), (am 4, .inl (K.2.1, 160, .inl pg)), (am 5, .inl (K.2.2.1, 128, .inl mk)), (am 6, .inl (K.2.2.1, 128, .inl we)), (am 7, .inl (K.2.1, 6, .inl co))]) (g_goS (pc := 106) hX (As := [.int (nI 0), .int ((nI g) - (nI (max 1 (d.length / e.length))))]) (stk := [.int (nI t), .ref (am 2)]) (wc := []) (c_X3_greater l K (nI 0) ((nI g) - (nI (max 1 (d.length / e.length))))) rfl rfl rfl gX3_back_X3_greater nX3_greaterS ⟨(Nat.le_of_ble_eq_true rfl), (Nat.le_of_ble_eq_true rfl)⟩ [] rfl rfl rfl (Nat.le_of_ble_eq_true rfl) dX3_back_106 ⟨(Nat.le_of_ble_eq_true rfl), (Nat.le_of_ble_eq_true rfl)⟩) [] [0, 1, 2, 3, 4, 5, 6, 7, 8] [0, 1, 2, 3, 4, 5, 6, 7, 8] rfl rfl rfl (by decide) rfl (fun _ => rfl) (fun r u h106 => ?_)
  obtain rfl := h106
  refine g_top (y := (nI (g - max 1 (d.length / e.length)))) (mm_sub2 (by omega) (by have := Nat.div_le_self d.length e.length; omega)) ?_
  refine g_iast (pc := 109) (ws' := [(m, .inr (3, [.ref (am 0), .ref (am 1), .ref (am 2), .ref (am 3), .ref (am 4), .ref (am 5), .ref (am 6), .ref (am 7), .int rd, .int wr, .int vi])), (am 0, .inl (K.2.1, 2, .inl po)), (am 1, .inl (K.2.1, 2, .inl ca)), (am 2, .inl (K.2.1, 2, .inl (upd go t (nI (g - max 1 (d.length / e.length)))))), (am 3, .inl (K.2.1, 8, .inl le)), (am 4, .inl (K.2.1, 160, .inl pg)), (am 5, .inl (K.2.2.1, 128, .inl mk)), (am 6, .inl (K.2.2.1, 128, .inl we)), (am 7, .inl (K.2.1, 6, .inl co))]) hX 3 rfl (by omega) (by omega) rfl dX3_back_109 ?_
  refine g_ws (ws' := [(m, .inr (3, [.ref (am 0), .ref (am 1), .ref (am 2), .ref (am 3), .ref (am 4), .ref (am 5), .ref (am 6), .ref (am 7), .int rd, .int wr, .int vi])), (am 0, .inl (K.2.1, 2, .inl po)), (am 1, .inl (K.2.1, 2, .inl ca)), (am 2, .inl (K.2.1, 2, .inl (upd go t (nI (g - sStep d.length e.length))))), (am 3, .inl (K.2.1, 8, .inl le)), (am 4, .inl (K.2.1, 160, .inl pg)), (am 5, .inl (K.2.2.1, 128, .inl mk)), (am 6, .inl (K.2.2.1, 128, .inl we)), (am 7, .inl (K.2.1, 6, .inl co))]) rfl ?_
  refine g_aload_n (pc := 110) hX dX3_back_110 rfl 4 rfl ?_
  refine g_iload_n (pc := 111) hX dX3_back_111 rfl 5 rfl ?_
  refine g_iload_n (pc := 112) hX dX3_back_112 rfl 7 rfl ?_
  refine g_ifB_ne (pc := 113) (tgt := 120) hX dX3_back_113 (by decide) (fun c113 => absurd c113 (by decide)) (fun c113 => ?_)
  refine g_iconst (pc := 116) (v := (nI 1)) hX dX3_back_116 (by decide) ?_
  refine g_goto (pc := 117) (tgt := 121) hX dX3_back_117 (by decide) ?_
  refine g_top (y := (bI true)) (by decide) ?_
  refine g_cv (pc := 121) hX (wc := [(m, .inr (3, [.ref (am 0), .ref (am 1), .ref (am 2), .ref (am 3), .ref (am 4), .ref (am 5), .ref (am 6), .ref (am 7), .int rd, .int wr, .int vi])), (am 0, .inl (K.2.1, 2, .inl po)), (am 1, .inl (K.2.1, 2, .inl ca)), (am 2, .inl (K.2.1, 2, .inl (upd go t (nI (g - sStep d.length e.length))))), (am 3, .inl (K.2.1, 8, .inl le)), (am 4, .inl (K.2.1, 160, .inl pg)), (am 5, .inl (K.2.2.1, 128, .inl mk)), (am 6, .inl (K.2.2.1, 128, .inl we)), (am 7, .inl (K.2.1, 6, .inl co))]) (wr := []) (Wd' := fun u121 => [(m, .inr (3, [.ref (am 0), .ref (am 1), .ref (am 2), .ref (am 3), .ref (am 4), .ref (am 5), .ref (am 6), .ref (am 7), .int rd, .int wr, .int u121.2.2])), (am 0, .inl (K.2.1, 2, .inl po)), (am 1, .inl (K.2.1, 2, .inl ca)), (am 2, .inl (K.2.1, 2, .inl (upd go t (nI (g - sStep d.length e.length))))), (am 3, .inl (K.2.1, 8, .inl u121.1)), (am 4, .inl (K.2.1, 160, .inl u121.2.1)), (am 5, .inl (K.2.2.1, 128, .inl mk)), (am 6, .inl (K.2.2.1, 128, .inl we)), (am 7, .inl (K.2.1, 6, .inl co))]) (g_goV (pc := 121) hX (As := [.int (nI t), .int (bI true)]) (stk := []) (wc := [(m, .inr (3, [.ref (am 0), .ref (am 1), .ref (am 2), .ref (am 3), .ref (am 4), .ref (am 5), .ref (am 6), .ref (am 7), .int rd, .int wr, .int vi])), (am 0, .inl (K.2.1, 2, .inl po)), (am 1, .inl (K.2.1, 2, .inl ca)), (am 2, .inl (K.2.1, 2, .inl (upd go t (nI (g - sStep d.length e.length))))), (am 3, .inl (K.2.1, 8, .inl le)), (am 4, .inl (K.2.1, 160, .inl pg)), (am 5, .inl (K.2.2.1, 128, .inl mk)), (am 6, .inl (K.2.2.1, 128, .inl we)), (am 7, .inl (K.2.1, 6, .inl co))]) (c_X3_putOut l K m am po ca (upd go t (nI (g - sStep d.length e.length))) le pg mk we co rd wr vi t ht c (g - sStep d.length e.length) a b d e RO hR hca pk_us (by omega) true hb (by omega) (by omega)) rfl rfl rfl gX3_back_X3_putOut nX3_putOutV rfl 0 rfl ⟨(Nat.le_of_ble_eq_true rfl), (Nat.le_of_ble_eq_true rfl)⟩ [0, 1, 2, 3, 4, 5, 6, 7, 8] rfl rfl rfl (Nat.le_of_ble_eq_true rfl) dX3_back_121 ⟨(Nat.le_of_ble_eq_true rfl), (Nat.le_of_ble_eq_true rfl)⟩) [0, 1, 2, 3, 4, 5, 6, 7, 8] [] [0, 1, 2, 3, 4, 5, 6, 7, 8] rfl rfl rfl (by decide) rfl (fun _ => rfl) (fun u121 h121 => ?_)
  obtain ⟨hR121, hvi⟩ := h121
  have hob := sOut_b (g - sStep d.length e.length) true a b d e
  have hoa := sOut_a (g - sStep d.length e.length) true a b d e
  have hm9 : x ∈ (sOut (g - sStep d.length e.length) true a b d e).2.2.2.2 := by
    unfold sOut
    by_cases q : sFirst (g - sStep d.length e.length) true a = true
    · rw [if_pos q]; exact hm
    · rw [if_neg q]; exact List.mem_cons_of_mem _ hm
  refine g_aload_n (pc := 124) hX dX3_back_124 rfl 4 rfl ?_
  refine g_iload_n (pc := 125) hX dX3_back_125 rfl 7 rfl ?_
  refine g_ifB_eq (pc := 126) (tgt := 136) hX dX3_back_126 (by decide) (fun c126 => ?_) (fun c126 => absurd c126 (by decide))
  refine g_iload (pc := 136) hX dX3_back_136 3 rfl ?_
  refine g_iconst (pc := 138) (v := (nI 3)) hX dX3_back_138 (by decide) ?_
  refine g_iaddN (pc := 139) (r := (4 * t) + 3) hX dX3_back_139 (by first | rfl | omega) ?_
  refine g_iload (pc := 140) hX dX3_back_140 3 rfl ?_
  refine g_iconst (pc := 142) (v := (nI 1)) hX dX3_back_142 (by decide) ?_
  refine g_iaddN (pc := 143) (r := (4 * t) + 1) hX dX3_back_143 (by first | rfl | omega) ?_
  refine g_iload_n (pc := 144) hX dX3_back_144 rfl 6 rfl ?_
  refine g_cv (pc := 145) hX (wc := [(m, .inr (3, [.ref (am 0), .ref (am 1), .ref (am 2), .ref (am 3), .ref (am 4), .ref (am 5), .ref (am 6), .ref (am 7), .int rd, .int wr, .int u121.2.2])), (am 0, .inl (K.2.1, 2, .inl po)), (am 1, .inl (K.2.1, 2, .inl ca)), (am 2, .inl (K.2.1, 2, .inl (upd go t (nI (g - sStep d.length e.length))))), (am 3, .inl (K.2.1, 8, .inl u121.1)), (am 4, .inl (K.2.1, 160, .inl u121.2.1)), (am 5, .inl (K.2.2.1, 128, .inl mk)), (am 6, .inl (K.2.2.1, 128, .inl we)), (am 7, .inl (K.2.1, 6, .inl co))]) (wr := []) (Wd' := fun u145 => [(m, .inr (3, [.ref (am 0), .ref (am 1), .ref (am 2), .ref (am 3), .ref (am 4), .ref (am 5), .ref (am 6), .ref (am 7), .int rd, .int wr, .int u121.2.2])), (am 0, .inl (K.2.1, 2, .inl po)), (am 1, .inl (K.2.1, 2, .inl ca)), (am 2, .inl (K.2.1, 2, .inl (upd go t (nI (g - sStep d.length e.length))))), (am 3, .inl (K.2.1, 8, .inl u145.1)), (am 4, .inl (K.2.1, 160, .inl u145.2)), (am 5, .inl (K.2.2.1, 128, .inl mk)), (am 6, .inl (K.2.2.1, 128, .inl we)), (am 7, .inl (K.2.1, 6, .inl co))]) (g_goV (pc := 145) hX (As := [.int (nI ((4 * t) + 3)), .int (nI ((4 * t) + 1)), .int (nI x)]) (stk := []) (wc := [(m, .inr (3, [.ref (am 0), .ref (am 1), .ref (am 2), .ref (am 3), .ref (am 4), .ref (am 5), .ref (am 6), .ref (am 7), .int rd, .int wr, .int u121.2.2])), (am 0, .inl (K.2.1, 2, .inl po)), (am 1, .inl (K.2.1, 2, .inl ca)), (am 2, .inl (K.2.1, 2, .inl (upd go t (nI (g - sStep d.length e.length))))), (am 3, .inl (K.2.1, 8, .inl u121.1)), (am 4, .inl (K.2.1, 160, .inl u121.2.1)), (am 5, .inl (K.2.2.1, 128, .inl mk)), (am 6, .inl (K.2.2.1, 128, .inl we)), (am 7, .inl (K.2.1, 6, .inl co))]) (c_X3_move l K m am po ca (upd go t (nI (g - sStep d.length e.length))) u121.1 u121.2.1 mk we co rd wr u121.2.2 (rr t ((sOut (g - sStep d.length e.length) true a b d e).2.1) ((sOut (g - sStep d.length e.length) true a b d e).2.2.1) ((sOut (g - sStep d.length e.length) true a b d e).2.2.2.1) ((sOut (g - sStep d.length e.length) true a b d e).2.2.2.2) RO) hR121 ((4 * t) + 3) ((4 * t) + 1) (by omega) (by omega) x hx (by rw [rr_3]; exact hm9) (by rw [rr_3, rr_u3, rr_1]; show ((sOut (g - sStep d.length e.length) true a b d e).2.2.1).length + 1 ≤ 20; omega)) rfl rfl rfl gX3_back_X3_move nX3_moveV rfl 0 rfl ⟨(Nat.le_of_ble_eq_true rfl), (Nat.le_of_ble_eq_true rfl)⟩ [0, 1, 2, 3, 4, 5, 6, 7, 8] rfl rfl rfl (Nat.le_of_ble_eq_true rfl) dX3_back_145 ⟨(Nat.le_of_ble_eq_true rfl), (Nat.le_of_ble_eq_true rfl)⟩) [0, 1, 2, 3, 4, 5, 6, 7, 8] [] [0, 1, 2, 3, 4, 5, 6, 7, 8] rfl rfl rfl (by decide) rfl (fun _ => rfl) (fun u145 h145 => ?_)
  have hR145 := h145
  rw [rr_3, rr_u3, rr_1, rr_u1] at hR145
  exact hret (u := (u145.1, u145.2, u121.2.2)) dX3_back_148 (⟨hR145, hvi⟩) rfl
abbrev rmX3_balanced : Room := { frames := 4, cells := 0, slots := 0, locals := 97 }
theorem flX3_balanced_13 : Cond.fieldLink RX3 13 "TwoTierCacheModel" "capacities" "[I" ∈ wsX3_balanced := by decide +kernel
theorem inX3_balanced_X3 : ∀ w ∈ u_ws RX3 TX3 11, w ∈ wsX3_balanced := by decide +kernel
theorem nX3_backV : yX3_back.cls = RX3 ∧ yX3_back.cls ≠ "java/lang/invoke/MethodHandle" ∧ yX3_back.cls ≠ "java/lang/invoke/VarHandle" ∧ (parseMethodDescriptor yX3_back.desc).map (fun d => d.parameters.length) = some 3 := by decide +kernel
theorem flX3_balanced_19 : Cond.fieldLink RX3 19 "TwoTierCacheModel" "lengths" "[I" ∈ wsX3_balanced := by decide +kernel
theorem flX3_balanced_65 : Cond.fieldLink RX3 65 "TwoTierCacheModel" "victim" "I" ∈ wsX3_balanced := by decide +kernel
set_option maxHeartbeats 4000000 in
set_option maxRecDepth 100000 in
/-- balanced -/
theorem c_X3_balanced (l : Launch) (K : gT) (m : Nat) (am : Nat → Nat) (po ca go le pg mk we co : Nat → Int32) (rd wr : Int32) (t : Nat) (ht : t < 2) (c g : Nat) (a b d e : List Nat) (RO : Nat → List Nat) (hR : rowsR le pg (rr t a b d e RO)) (hca : ca t = nI c) (hgo : go t = nI g) (hB : pBal c g a b d e) (x : Nat) (hx : x < 64) : Ci l yX3_balanced wsX3_balanced rmX3_balanced K [.ref m, .int (nI t), .int (nI x)] (mW K m am po ca go le pg mk we co rd wr (-1)) (fun (r : Int32) (u : (Nat → Int32) × (Nat → Int32) × Int32) => r = bI (sHolds 3 a b d x) ∧ rowsR u.1 u.2.1 (rr t (sBal c g a b d e x).2.2.1 (sBal c g a b d e x).2.2.2.1 (sBal c g a b d e x).2.2.2.2.1 (sBal c g a b d e x).2.2.2.2.2 RO) ∧ u.2.2 = pI (sBal c g a b d e x).1) (fun u => mW K m am po ca (upd go t (nI (sBal c g a b d e x).2.1)) u.1 u.2.1 mk we co rd wr u.2.2) 0 0 := by
  refine m_z (cc := cX3_balanced) (own := RX3) (maxL := 7) (lv0 := [(0, .ref m), (1, .int (nI t)), (2, .int (nI x))]) (by decide) rfl rfl (Nat.le_of_ble_eq_true rfl) rfl ?_
  intro X hX hin hret
  refine g_ws (ws' := [(m, .inr (3, [.ref (am 0), .ref (am 1), .ref (am 2), .ref (am 3), .ref (am 4), .ref (am 5), .ref (am 6), .ref (am 7), .int rd, .int wr, .int (-1)])), (am 0, .inl (K.2.1, 2, .inl po)), (am 1, .inl (K.2.1, 2, .inl ca)), (am 2, .inl (K.2.1, 2, .inl go)), (am 3, .inl (K.2.1, 8, .inl le)), (am 4, .inl (K.2.1, 160, .inl pg)), (am 5, .inl (K.2.2.1, 128, .inl mk)), (am 6, .inl (K.2.2.1, 128, .inl we)), (am 7, .inl (K.2.1, 6, .inl co))]) rfl ?_
  have la := (rr_l0 hR ht).2.1
  have lb := (rr_l1 hR ht).2.1
  have ld := (rr_l2 hR ht).2.1
  have lle := (rr_l3 hR ht).2.1
  obtain ⟨hc1, hc2, hg, hab, had, hall, hful⟩ := id hB
  generalize hs : sBal c g a b d e x = rs at hret
  obtain ⟨o, g2, a2, b2, d2, e2⟩ := rs
  refine g_iconst (pc := 0) (v := (nI 4)) hX dX3_balanced_0 (by decide) ?_
  refine g_iload_n (pc := 1) hX dX3_balanced_1 rfl 1 rfl ?_
  refine g_imulN (pc := 2) (r := 4 * t) hX dX3_balanced_2 (by first | rfl | omega) ?_
  refine g_istore_n (pc := 3) (lv' := [(3, .int (nI (4 * t))), (0, .ref m), (1, .int (nI t)), (2, .int (nI x))]) hX dX3_balanced_3 rfl (by decide) rfl ?_
  refine g_aload_n (pc := 4) hX dX3_balanced_4 rfl 1 rfl ?_
  refine g_get (pc := 5) (C := RX3) (T := TX3) (N := 11) (ci := 3) (v := .ref (am 1)) hX inX3_balanced_X3 0 rfl rfl 1 (by decide) flX3_balanced_13 rfl rfl dX3_balanced_5 ?_
  refine g_iload_n (pc := 8) hX dX3_balanced_8 rfl 2 rfl ?_
  refine g_iald (pc := 9) (v := (nI c)) hX 2 rfl (by omega) (by omega) hca dX3_balanced_9 ?_
  refine g_istore (pc := 10) (lv' := [(4, .int (nI c)), (3, .int (nI (4 * t))), (0, .ref m), (1, .int (nI t)), (2, .int (nI x))]) hX dX3_balanced_10 (by decide) rfl ?_
  refine g_aload_n (pc := 12) hX dX3_balanced_12 rfl 2 rfl ?_
  refine g_iload_n (pc := 13) hX dX3_balanced_13 rfl 1 rfl ?_
  refine g_iload_n (pc := 14) hX dX3_balanced_14 rfl 4 rfl ?_
  refine g_ci (pc := 15) hX (wc := [(m, .inr (3, [.ref (am 0), .ref (am 1), .ref (am 2), .ref (am 3), .ref (am 4), .ref (am 5), .ref (am 6), .ref (am 7), .int rd, .int wr, .int (-1)])), (am 0, .inl (K.2.1, 2, .inl po)), (am 1, .inl (K.2.1, 2, .inl ca)), (am 2, .inl (K.2.1, 2, .inl go)), (am 3, .inl (K.2.1, 8, .inl le)), (am 4, .inl (K.2.1, 160, .inl pg)), (am 5, .inl (K.2.2.1, 128, .inl mk)), (am 6, .inl (K.2.2.1, 128, .inl we)), (am 7, .inl (K.2.1, 6, .inl co))]) (wr := []) (Wd' := fun u => [(m, .inr (3, [.ref (am 0), .ref (am 1), .ref (am 2), .ref (am 3), .ref (am 4), .ref (am 5), .ref (am 6), .ref (am 7), .int rd, .int wr, .int (-1)])), (am 0, .inl (K.2.1, 2, .inl po)), (am 1, .inl (K.2.1, 2, .inl ca)), (am 2, .inl (K.2.1, 2, .inl go)), (am 3, .inl (K.2.1, 8, .inl le)), (am 4, .inl (K.2.1, 160, .inl pg)), (am 5, .inl (K.2.2.1, 128, .inl mk)), (am 6, .inl (K.2.2.1, 128, .inl we)), (am 7, .inl (K.2.1, 6, .inl co))]) (g_goV (pc := 15) hX (As := [.int (nI (4 * t)), .int (nI x)]) (stk := []) (wc := [(m, .inr (3, [.ref (am 0), .ref (am 1), .ref (am 2), .ref (am 3), .ref (am 4), .ref (am 5), .ref (am 6), .ref (am 7), .int rd, .int wr, .int (-1)])), (am 0, .inl (K.2.1, 2, .inl po)), (am 1, .inl (K.2.1, 2, .inl ca)), (am 2, .inl (K.2.1, 2, .inl go)), (am 3, .inl (K.2.1, 8, .inl le)), (am 4, .inl (K.2.1, 160, .inl pg)), (am 5, .inl (K.2.2.1, 128, .inl mk)), (am 6, .inl (K.2.2.1, 128, .inl we)), (am 7, .inl (K.2.1, 6, .inl co))]) (c_X3_isIn l K m am po ca go le pg mk we co rd wr (-1) (rr t a b d e RO) hR (4 * t) (by omega) x hx) rfl rfl rfl gX3_balanced_X3_isIn nX3_isInV rfl 0 rfl ⟨(Nat.le_of_ble_eq_true rfl), (Nat.le_of_ble_eq_true rfl)⟩ [0, 1, 2, 3, 4, 5, 6, 7, 8] rfl rfl rfl (Nat.le_of_ble_eq_true rfl) dX3_balanced_15 ⟨(Nat.le_of_ble_eq_true rfl), (Nat.le_of_ble_eq_true rfl)⟩) [0, 1, 2, 3, 4, 5, 6, 7, 8] [] [0, 1, 2, 3, 4, 5, 6, 7, 8] rfl rfl rfl (by decide) rfl (fun _ => rfl) (fun r u h15 => ?_)
  obtain rfl := h15
  refine g_top (y := (bI (decide (x ∈ a)))) (by rw [rr_0]) ?_
  refine g_ifB_ne (pc := 18) (tgt := 32) hX dX3_balanced_18 (by decide) (fun c18 => ?_) (fun c18 => ?_)
  · have hm0 : x ∈ a := of_decide_eq_true c18
    have hm0l := rm_len hm0
    refine g_aload_n (pc := 32) hX dX3_balanced_32 rfl 2 rfl ?_
    refine g_aload_n (pc := 33) hX dX3_balanced_33 rfl 2 rfl ?_
    refine g_iload_n (pc := 34) hX dX3_balanced_34 rfl 1 rfl ?_
    refine g_iload_n (pc := 35) hX dX3_balanced_35 rfl 4 rfl ?_
    refine g_ci (pc := 36) hX (wc := [(m, .inr (3, [.ref (am 0), .ref (am 1), .ref (am 2), .ref (am 3), .ref (am 4), .ref (am 5), .ref (am 6), .ref (am 7), .int rd, .int wr, .int (-1)])), (am 0, .inl (K.2.1, 2, .inl po)), (am 1, .inl (K.2.1, 2, .inl ca)), (am 2, .inl (K.2.1, 2, .inl go)), (am 3, .inl (K.2.1, 8, .inl le)), (am 4, .inl (K.2.1, 160, .inl pg)), (am 5, .inl (K.2.2.1, 128, .inl mk)), (am 6, .inl (K.2.2.1, 128, .inl we)), (am 7, .inl (K.2.1, 6, .inl co))]) (wr := []) (Wd' := fun u => [(m, .inr (3, [.ref (am 0), .ref (am 1), .ref (am 2), .ref (am 3), .ref (am 4), .ref (am 5), .ref (am 6), .ref (am 7), .int rd, .int wr, .int (-1)])), (am 0, .inl (K.2.1, 2, .inl po)), (am 1, .inl (K.2.1, 2, .inl ca)), (am 2, .inl (K.2.1, 2, .inl go)), (am 3, .inl (K.2.1, 8, .inl le)), (am 4, .inl (K.2.1, 160, .inl pg)), (am 5, .inl (K.2.2.1, 128, .inl mk)), (am 6, .inl (K.2.2.1, 128, .inl we)), (am 7, .inl (K.2.1, 6, .inl co))]) (g_goV (pc := 36) hX (As := [.int (nI (4 * t)), .int (nI x)]) (stk := [.ref m]) (wc := [(m, .inr (3, [.ref (am 0), .ref (am 1), .ref (am 2), .ref (am 3), .ref (am 4), .ref (am 5), .ref (am 6), .ref (am 7), .int rd, .int wr, .int (-1)])), (am 0, .inl (K.2.1, 2, .inl po)), (am 1, .inl (K.2.1, 2, .inl ca)), (am 2, .inl (K.2.1, 2, .inl go)), (am 3, .inl (K.2.1, 8, .inl le)), (am 4, .inl (K.2.1, 160, .inl pg)), (am 5, .inl (K.2.2.1, 128, .inl mk)), (am 6, .inl (K.2.2.1, 128, .inl we)), (am 7, .inl (K.2.1, 6, .inl co))]) (c_X3_isIn l K m am po ca go le pg mk we co rd wr (-1) (rr t a b d e RO) hR (4 * t) (by omega) x hx) rfl rfl rfl gX3_balanced_X3_isIn nX3_isInV rfl 0 rfl ⟨(Nat.le_of_ble_eq_true rfl), (Nat.le_of_ble_eq_true rfl)⟩ [0, 1, 2, 3, 4, 5, 6, 7, 8] rfl rfl rfl (Nat.le_of_ble_eq_true rfl) dX3_balanced_36 ⟨(Nat.le_of_ble_eq_true rfl), (Nat.le_of_ble_eq_true rfl)⟩) [0, 1, 2, 3, 4, 5, 6, 7, 8] [] [0, 1, 2, 3, 4, 5, 6, 7, 8] rfl rfl rfl (by decide) rfl (fun _ => rfl) (fun r u h36 => ?_)
    obtain rfl := h36
    refine g_top (y := (bI (decide (x ∈ a)))) (by rw [rr_0]) ?_
    refine g_ifB_eq (pc := 39) (tgt := 46) hX dX3_balanced_39 (by decide) (fun c39 => absurd c39 (by rw [decide_eq_true hm0]; decide)) (fun c39 => ?_)
    refine g_iload_n (pc := 42) hX dX3_balanced_42 rfl 1 rfl ?_
    refine g_goto (pc := 43) (tgt := 49) hX dX3_balanced_43 (by decide) ?_
    refine g_iload_n (pc := 49) hX dX3_balanced_49 rfl 1 rfl ?_
    refine g_iconst (pc := 50) (v := (nI 1)) hX dX3_balanced_50 (by decide) ?_
    refine g_iaddN (pc := 51) (r := (4 * t) + 1) hX dX3_balanced_51 (by first | rfl | omega) ?_
    refine g_iload_n (pc := 52) hX dX3_balanced_52 rfl 4 rfl ?_
    refine g_cv (pc := 53) hX (wc := [(m, .inr (3, [.ref (am 0), .ref (am 1), .ref (am 2), .ref (am 3), .ref (am 4), .ref (am 5), .ref (am 6), .ref (am 7), .int rd, .int wr, .int (-1)])), (am 0, .inl (K.2.1, 2, .inl po)), (am 1, .inl (K.2.1, 2, .inl ca)), (am 2, .inl (K.2.1, 2, .inl go)), (am 3, .inl (K.2.1, 8, .inl le)), (am 4, .inl (K.2.1, 160, .inl pg)), (am 5, .inl (K.2.2.1, 128, .inl mk)), (am 6, .inl (K.2.2.1, 128, .inl we)), (am 7, .inl (K.2.1, 6, .inl co))]) (wr := []) (Wd' := fun u53 => [(m, .inr (3, [.ref (am 0), .ref (am 1), .ref (am 2), .ref (am 3), .ref (am 4), .ref (am 5), .ref (am 6), .ref (am 7), .int rd, .int wr, .int (-1)])), (am 0, .inl (K.2.1, 2, .inl po)), (am 1, .inl (K.2.1, 2, .inl ca)), (am 2, .inl (K.2.1, 2, .inl go)), (am 3, .inl (K.2.1, 8, .inl u53.1)), (am 4, .inl (K.2.1, 160, .inl u53.2)), (am 5, .inl (K.2.2.1, 128, .inl mk)), (am 6, .inl (K.2.2.1, 128, .inl we)), (am 7, .inl (K.2.1, 6, .inl co))]) (g_goV (pc := 53) hX (As := [.int (nI (4 * t)), .int (nI ((4 * t) + 1)), .int (nI x)]) (stk := []) (wc := [(m, .inr (3, [.ref (am 0), .ref (am 1), .ref (am 2), .ref (am 3), .ref (am 4), .ref (am 5), .ref (am 6), .ref (am 7), .int rd, .int wr, .int (-1)])), (am 0, .inl (K.2.1, 2, .inl po)), (am 1, .inl (K.2.1, 2, .inl ca)), (am 2, .inl (K.2.1, 2, .inl go)), (am 3, .inl (K.2.1, 8, .inl le)), (am 4, .inl (K.2.1, 160, .inl pg)), (am 5, .inl (K.2.2.1, 128, .inl mk)), (am 6, .inl (K.2.2.1, 128, .inl we)), (am 7, .inl (K.2.1, 6, .inl co))]) (c_X3_move l K m am po ca go le pg mk we co rd wr (-1) (rr t a b d e RO) hR (4 * t) ((4 * t) + 1) (by omega) (by omega) x hx (by rw [rr_0]; exact hm0) (by rw [rr_0, rr_u0, rr_1]; show b.length + 1 ≤ 20; omega)) rfl rfl rfl gX3_balanced_X3_move nX3_moveV rfl 0 rfl ⟨(Nat.le_of_ble_eq_true rfl), (Nat.le_of_ble_eq_true rfl)⟩ [0, 1, 2, 3, 4, 5, 6, 7, 8] rfl rfl rfl (Nat.le_of_ble_eq_true rfl) dX3_balanced_53 ⟨(Nat.le_of_ble_eq_true rfl), (Nat.le_of_ble_eq_true rfl)⟩) [0, 1, 2, 3, 4, 5, 6, 7, 8] [] [0, 1, 2, 3, 4, 5, 6, 7, 8] rfl rfl rfl (by decide) rfl (fun _ => rfl) (fun u53 h53 => ?_)
    have hR53 := h53
    rw [rr_0, rr_u0, rr_1, rr_u1] at hR53
    refine g_iconst (pc := 56) (v := (nI 1)) hX dX3_balanced_56 (by decide) ?_
    refine g_top (y := bI true) (by decide) ?_
    refine g_ws (ws' := [(m, .inr (3, [.ref (am 0), .ref (am 1), .ref (am 2), .ref (am 3), .ref (am 4), .ref (am 5), .ref (am 6), .ref (am 7), .int rd, .int wr, .int (-1)])), (am 0, .inl (K.2.1, 2, .inl po)), (am 1, .inl (K.2.1, 2, .inl ca)), (am 2, .inl (K.2.1, 2, .inl (upd go t (nI g)))), (am 3, .inl (K.2.1, 8, .inl u53.1)), (am 4, .inl (K.2.1, 160, .inl u53.2)), (am 5, .inl (K.2.2.1, 128, .inl mk)), (am 6, .inl (K.2.2.1, 128, .inl we)), (am 7, .inl (K.2.1, 6, .inl co))]) (by rw [upd_same hgo]) ?_
    rw [show sBal c g a b d e x = (none, g, rm a x, x :: b, d, e) from if_pos hm0] at hs
    cases hs
    exact hret (v := true) (u := (u53.1, u53.2, (-1))) dX3_balanced_57 (⟨by unfold sHolds; rw [decide_eq_true hm0]; rfl, hR53, rfl⟩) rfl
  · have hm0 : x ∉ a := of_decide_eq_false c18
    refine g_aload_n (pc := 21) hX dX3_balanced_21 rfl 2 rfl ?_
    refine g_iload_n (pc := 22) hX dX3_balanced_22 rfl 1 rfl ?_
    refine g_iconst (pc := 23) (v := (nI 1)) hX dX3_balanced_23 (by decide) ?_
    refine g_iaddN (pc := 24) (r := (4 * t) + 1) hX dX3_balanced_24 (by first | rfl | omega) ?_
    refine g_iload_n (pc := 25) hX dX3_balanced_25 rfl 4 rfl ?_
    refine g_ci (pc := 26) hX (wc := [(m, .inr (3, [.ref (am 0), .ref (am 1), .ref (am 2), .ref (am 3), .ref (am 4), .ref (am 5), .ref (am 6), .ref (am 7), .int rd, .int wr, .int (-1)])), (am 0, .inl (K.2.1, 2, .inl po)), (am 1, .inl (K.2.1, 2, .inl ca)), (am 2, .inl (K.2.1, 2, .inl go)), (am 3, .inl (K.2.1, 8, .inl le)), (am 4, .inl (K.2.1, 160, .inl pg)), (am 5, .inl (K.2.2.1, 128, .inl mk)), (am 6, .inl (K.2.2.1, 128, .inl we)), (am 7, .inl (K.2.1, 6, .inl co))]) (wr := []) (Wd' := fun u => [(m, .inr (3, [.ref (am 0), .ref (am 1), .ref (am 2), .ref (am 3), .ref (am 4), .ref (am 5), .ref (am 6), .ref (am 7), .int rd, .int wr, .int (-1)])), (am 0, .inl (K.2.1, 2, .inl po)), (am 1, .inl (K.2.1, 2, .inl ca)), (am 2, .inl (K.2.1, 2, .inl go)), (am 3, .inl (K.2.1, 8, .inl le)), (am 4, .inl (K.2.1, 160, .inl pg)), (am 5, .inl (K.2.2.1, 128, .inl mk)), (am 6, .inl (K.2.2.1, 128, .inl we)), (am 7, .inl (K.2.1, 6, .inl co))]) (g_goV (pc := 26) hX (As := [.int (nI ((4 * t) + 1)), .int (nI x)]) (stk := []) (wc := [(m, .inr (3, [.ref (am 0), .ref (am 1), .ref (am 2), .ref (am 3), .ref (am 4), .ref (am 5), .ref (am 6), .ref (am 7), .int rd, .int wr, .int (-1)])), (am 0, .inl (K.2.1, 2, .inl po)), (am 1, .inl (K.2.1, 2, .inl ca)), (am 2, .inl (K.2.1, 2, .inl go)), (am 3, .inl (K.2.1, 8, .inl le)), (am 4, .inl (K.2.1, 160, .inl pg)), (am 5, .inl (K.2.2.1, 128, .inl mk)), (am 6, .inl (K.2.2.1, 128, .inl we)), (am 7, .inl (K.2.1, 6, .inl co))]) (c_X3_isIn l K m am po ca go le pg mk we co rd wr (-1) (rr t a b d e RO) hR ((4 * t) + 1) (by omega) x hx) rfl rfl rfl gX3_balanced_X3_isIn nX3_isInV rfl 0 rfl ⟨(Nat.le_of_ble_eq_true rfl), (Nat.le_of_ble_eq_true rfl)⟩ [0, 1, 2, 3, 4, 5, 6, 7, 8] rfl rfl rfl (Nat.le_of_ble_eq_true rfl) dX3_balanced_26 ⟨(Nat.le_of_ble_eq_true rfl), (Nat.le_of_ble_eq_true rfl)⟩) [0, 1, 2, 3, 4, 5, 6, 7, 8] [] [0, 1, 2, 3, 4, 5, 6, 7, 8] rfl rfl rfl (by decide) rfl (fun _ => rfl) (fun r u h26 => ?_)
    obtain rfl := h26
    refine g_top (y := (bI (decide (x ∈ b)))) (by rw [rr_1]) ?_
    refine g_ifB_eq (pc := 29) (tgt := 58) hX dX3_balanced_29 (by decide) (fun c29 => ?_) (fun c29 => ?_)
    · have hm1 : x ∉ b := of_decide_eq_false c29
      refine g_aload_n (pc := 58) hX dX3_balanced_58 rfl 2 rfl ?_
      refine g_iload_n (pc := 59) hX dX3_balanced_59 rfl 1 rfl ?_
      refine g_iconst (pc := 60) (v := (nI 2)) hX dX3_balanced_60 (by decide) ?_
      refine g_iaddN (pc := 61) (r := (4 * t) + 2) hX dX3_balanced_61 (by first | rfl | omega) ?_
      refine g_iload_n (pc := 62) hX dX3_balanced_62 rfl 4 rfl ?_
      refine g_ci (pc := 63) hX (wc := [(m, .inr (3, [.ref (am 0), .ref (am 1), .ref (am 2), .ref (am 3), .ref (am 4), .ref (am 5), .ref (am 6), .ref (am 7), .int rd, .int wr, .int (-1)])), (am 0, .inl (K.2.1, 2, .inl po)), (am 1, .inl (K.2.1, 2, .inl ca)), (am 2, .inl (K.2.1, 2, .inl go)), (am 3, .inl (K.2.1, 8, .inl le)), (am 4, .inl (K.2.1, 160, .inl pg)), (am 5, .inl (K.2.2.1, 128, .inl mk)), (am 6, .inl (K.2.2.1, 128, .inl we)), (am 7, .inl (K.2.1, 6, .inl co))]) (wr := []) (Wd' := fun u => [(m, .inr (3, [.ref (am 0), .ref (am 1), .ref (am 2), .ref (am 3), .ref (am 4), .ref (am 5), .ref (am 6), .ref (am 7), .int rd, .int wr, .int (-1)])), (am 0, .inl (K.2.1, 2, .inl po)), (am 1, .inl (K.2.1, 2, .inl ca)), (am 2, .inl (K.2.1, 2, .inl go)), (am 3, .inl (K.2.1, 8, .inl le)), (am 4, .inl (K.2.1, 160, .inl pg)), (am 5, .inl (K.2.2.1, 128, .inl mk)), (am 6, .inl (K.2.2.1, 128, .inl we)), (am 7, .inl (K.2.1, 6, .inl co))]) (g_goV (pc := 63) hX (As := [.int (nI ((4 * t) + 2)), .int (nI x)]) (stk := []) (wc := [(m, .inr (3, [.ref (am 0), .ref (am 1), .ref (am 2), .ref (am 3), .ref (am 4), .ref (am 5), .ref (am 6), .ref (am 7), .int rd, .int wr, .int (-1)])), (am 0, .inl (K.2.1, 2, .inl po)), (am 1, .inl (K.2.1, 2, .inl ca)), (am 2, .inl (K.2.1, 2, .inl go)), (am 3, .inl (K.2.1, 8, .inl le)), (am 4, .inl (K.2.1, 160, .inl pg)), (am 5, .inl (K.2.2.1, 128, .inl mk)), (am 6, .inl (K.2.2.1, 128, .inl we)), (am 7, .inl (K.2.1, 6, .inl co))]) (c_X3_isIn l K m am po ca go le pg mk we co rd wr (-1) (rr t a b d e RO) hR ((4 * t) + 2) (by omega) x hx) rfl rfl rfl gX3_balanced_X3_isIn nX3_isInV rfl 0 rfl ⟨(Nat.le_of_ble_eq_true rfl), (Nat.le_of_ble_eq_true rfl)⟩ [0, 1, 2, 3, 4, 5, 6, 7, 8] rfl rfl rfl (Nat.le_of_ble_eq_true rfl) dX3_balanced_63 ⟨(Nat.le_of_ble_eq_true rfl), (Nat.le_of_ble_eq_true rfl)⟩) [0, 1, 2, 3, 4, 5, 6, 7, 8] [] [0, 1, 2, 3, 4, 5, 6, 7, 8] rfl rfl rfl (by decide) rfl (fun _ => rfl) (fun r u h63 => ?_)
      obtain rfl := h63
      refine g_top (y := (bI (decide (x ∈ d)))) (by rw [rr_2]) ?_
      refine g_ifB_ne (pc := 66) (tgt := 80) hX dX3_balanced_66 (by decide) (fun c66 => ?_) (fun c66 => ?_)
      · have hm2 : x ∈ d := of_decide_eq_true c66
        have hm2l := rm_len hm2
        refine g_aload_n (pc := 80) hX dX3_balanced_80 rfl 2 rfl ?_
        refine g_iload_n (pc := 81) hX dX3_balanced_81 rfl 3 rfl ?_
        refine g_iload_n (pc := 82) hX dX3_balanced_82 rfl 4 rfl ?_
        refine g_aload_n (pc := 83) hX dX3_balanced_83 rfl 2 rfl ?_
        refine g_iload_n (pc := 84) hX dX3_balanced_84 rfl 1 rfl ?_
        refine g_iconst (pc := 85) (v := (nI 2)) hX dX3_balanced_85 (by decide) ?_
        refine g_iaddN (pc := 86) (r := (4 * t) + 2) hX dX3_balanced_86 (by first | rfl | omega) ?_
        refine g_iload_n (pc := 87) hX dX3_balanced_87 rfl 4 rfl ?_
        refine g_ci (pc := 88) hX (wc := [(m, .inr (3, [.ref (am 0), .ref (am 1), .ref (am 2), .ref (am 3), .ref (am 4), .ref (am 5), .ref (am 6), .ref (am 7), .int rd, .int wr, .int (-1)])), (am 0, .inl (K.2.1, 2, .inl po)), (am 1, .inl (K.2.1, 2, .inl ca)), (am 2, .inl (K.2.1, 2, .inl go)), (am 3, .inl (K.2.1, 8, .inl le)), (am 4, .inl (K.2.1, 160, .inl pg)), (am 5, .inl (K.2.2.1, 128, .inl mk)), (am 6, .inl (K.2.2.1, 128, .inl we)), (am 7, .inl (K.2.1, 6, .inl co))]) (wr := []) (Wd' := fun u => [(m, .inr (3, [.ref (am 0), .ref (am 1), .ref (am 2), .ref (am 3), .ref (am 4), .ref (am 5), .ref (am 6), .ref (am 7), .int rd, .int wr, .int (-1)])), (am 0, .inl (K.2.1, 2, .inl po)), (am 1, .inl (K.2.1, 2, .inl ca)), (am 2, .inl (K.2.1, 2, .inl go)), (am 3, .inl (K.2.1, 8, .inl le)), (am 4, .inl (K.2.1, 160, .inl pg)), (am 5, .inl (K.2.2.1, 128, .inl mk)), (am 6, .inl (K.2.2.1, 128, .inl we)), (am 7, .inl (K.2.1, 6, .inl co))]) (g_goV (pc := 88) hX (As := [.int (nI ((4 * t) + 2)), .int (nI x)]) (stk := [.int (nI x), .int (nI t), .ref m]) (wc := [(m, .inr (3, [.ref (am 0), .ref (am 1), .ref (am 2), .ref (am 3), .ref (am 4), .ref (am 5), .ref (am 6), .ref (am 7), .int rd, .int wr, .int (-1)])), (am 0, .inl (K.2.1, 2, .inl po)), (am 1, .inl (K.2.1, 2, .inl ca)), (am 2, .inl (K.2.1, 2, .inl go)), (am 3, .inl (K.2.1, 8, .inl le)), (am 4, .inl (K.2.1, 160, .inl pg)), (am 5, .inl (K.2.2.1, 128, .inl mk)), (am 6, .inl (K.2.2.1, 128, .inl we)), (am 7, .inl (K.2.1, 6, .inl co))]) (c_X3_isIn l K m am po ca go le pg mk we co rd wr (-1) (rr t a b d e RO) hR ((4 * t) + 2) (by omega) x hx) rfl rfl rfl gX3_balanced_X3_isIn nX3_isInV rfl 0 rfl ⟨(Nat.le_of_ble_eq_true rfl), (Nat.le_of_ble_eq_true rfl)⟩ [0, 1, 2, 3, 4, 5, 6, 7, 8] rfl rfl rfl (Nat.le_of_ble_eq_true rfl) dX3_balanced_88 ⟨(Nat.le_of_ble_eq_true rfl), (Nat.le_of_ble_eq_true rfl)⟩) [0, 1, 2, 3, 4, 5, 6, 7, 8] [] [0, 1, 2, 3, 4, 5, 6, 7, 8] rfl rfl rfl (by decide) rfl (fun _ => rfl) (fun r u h88 => ?_)
        obtain rfl := h88
        refine g_top (y := (bI (decide (x ∈ d)))) (by rw [rr_2]) ?_
        refine g_top (y := (bI true)) (by rw [decide_eq_true hm2]) ?_
        have hf : a.length + b.length = c := hful (by have := ix_lt hm2; omega)
        have hg2 : (min c (g + sStep e.length d.length)) ≤ c := by omega
        have hb2 : sFirst (min c (g + sStep e.length d.length)) false a = false → 0 < b.length := pBal_b (d2 := d) hB hg2 hf (Or.inl (by have := ix_lt hm2; omega))
        refine g_cv (pc := 91) hX (wc := [(m, .inr (3, [.ref (am 0), .ref (am 1), .ref (am 2), .ref (am 3), .ref (am 4), .ref (am 5), .ref (am 6), .ref (am 7), .int rd, .int wr, .int (-1)])), (am 0, .inl (K.2.1, 2, .inl po)), (am 1, .inl (K.2.1, 2, .inl ca)), (am 2, .inl (K.2.1, 2, .inl go)), (am 3, .inl (K.2.1, 8, .inl le)), (am 4, .inl (K.2.1, 160, .inl pg)), (am 5, .inl (K.2.2.1, 128, .inl mk)), (am 6, .inl (K.2.2.1, 128, .inl we)), (am 7, .inl (K.2.1, 6, .inl co))]) (wr := []) (Wd' := fun u91 => [(m, .inr (3, [.ref (am 0), .ref (am 1), .ref (am 2), .ref (am 3), .ref (am 4), .ref (am 5), .ref (am 6), .ref (am 7), .int rd, .int wr, .int u91.2.2])), (am 0, .inl (K.2.1, 2, .inl po)), (am 1, .inl (K.2.1, 2, .inl ca)), (am 2, .inl (K.2.1, 2, .inl (upd go t (nI (min c (g + sStep e.length d.length)))))), (am 3, .inl (K.2.1, 8, .inl u91.1)), (am 4, .inl (K.2.1, 160, .inl u91.2.1)), (am 5, .inl (K.2.2.1, 128, .inl mk)), (am 6, .inl (K.2.2.1, 128, .inl we)), (am 7, .inl (K.2.1, 6, .inl co))]) (g_goV (pc := 91) hX (As := [.int (nI t), .int (nI x), .int (bI true)]) (stk := []) (wc := [(m, .inr (3, [.ref (am 0), .ref (am 1), .ref (am 2), .ref (am 3), .ref (am 4), .ref (am 5), .ref (am 6), .ref (am 7), .int rd, .int wr, .int (-1)])), (am 0, .inl (K.2.1, 2, .inl po)), (am 1, .inl (K.2.1, 2, .inl ca)), (am 2, .inl (K.2.1, 2, .inl go)), (am 3, .inl (K.2.1, 8, .inl le)), (am 4, .inl (K.2.1, 160, .inl pg)), (am 5, .inl (K.2.2.1, 128, .inl mk)), (am 6, .inl (K.2.2.1, 128, .inl we)), (am 7, .inl (K.2.1, 6, .inl co))]) (c_X3_back_true l K m am po ca go le pg mk we co rd wr (-1) t ht c g a b d e RO hR hca hgo hc2 (by omega) hb2 (by omega) (by omega) (by omega) x hx hm2) rfl rfl rfl gX3_balanced_X3_back nX3_backV rfl 0 rfl ⟨(Nat.le_of_ble_eq_true rfl), (Nat.le_of_ble_eq_true rfl)⟩ [0, 1, 2, 3, 4, 5, 6, 7, 8] rfl rfl rfl (Nat.le_of_ble_eq_true rfl) dX3_balanced_91 ⟨(Nat.le_of_ble_eq_true rfl), (Nat.le_of_ble_eq_true rfl)⟩) [0, 1, 2, 3, 4, 5, 6, 7, 8] [] [0, 1, 2, 3, 4, 5, 6, 7, 8] rfl rfl rfl (by decide) rfl (fun _ => rfl) (fun u91 h91 => ?_)
        obtain ⟨hR91, hvi⟩ := h91
        refine g_iconst (pc := 94) (v := (nI 0)) hX dX3_balanced_94 (by decide) ?_
        refine g_top (y := bI false) (by decide) ?_
        rw [show sBal c g a b d e x = (some (sBack (min c (g + sStep e.length d.length)) false a b d e x).1, (min c (g + sStep e.length d.length)), (sBack (min c (g + sStep e.length d.length)) false a b d e x).2.1, (sBack (min c (g + sStep e.length d.length)) false a b d e x).2.2.1, (sBack (min c (g + sStep e.length d.length)) false a b d e x).2.2.2.1, (sBack (min c (g + sStep e.length d.length)) false a b d e x).2.2.2.2) from by unfold sBal; rw [if_neg hm0, if_neg hm1, if_pos hm2]] at hs
        cases hs
        exact hret (v := false) (u := (u91.1, u91.2.1, u91.2.2)) dX3_balanced_95 (⟨by unfold sHolds; rw [if_neg (by decide), decide_eq_false hm0, decide_eq_false (p := x ∈ b) hm1]; rfl, hR91, hvi⟩) rfl
      · have hm2 : x ∉ d := of_decide_eq_false c66
        refine g_aload_n (pc := 69) hX dX3_balanced_69 rfl 2 rfl ?_
        refine g_iload_n (pc := 70) hX dX3_balanced_70 rfl 1 rfl ?_
        refine g_iconst (pc := 71) (v := (nI 3)) hX dX3_balanced_71 (by decide) ?_
        refine g_iaddN (pc := 72) (r := (4 * t) + 3) hX dX3_balanced_72 (by first | rfl | omega) ?_
        refine g_iload_n (pc := 73) hX dX3_balanced_73 rfl 4 rfl ?_
        refine g_ci (pc := 74) hX (wc := [(m, .inr (3, [.ref (am 0), .ref (am 1), .ref (am 2), .ref (am 3), .ref (am 4), .ref (am 5), .ref (am 6), .ref (am 7), .int rd, .int wr, .int (-1)])), (am 0, .inl (K.2.1, 2, .inl po)), (am 1, .inl (K.2.1, 2, .inl ca)), (am 2, .inl (K.2.1, 2, .inl go)), (am 3, .inl (K.2.1, 8, .inl le)), (am 4, .inl (K.2.1, 160, .inl pg)), (am 5, .inl (K.2.2.1, 128, .inl mk)), (am 6, .inl (K.2.2.1, 128, .inl we)), (am 7, .inl (K.2.1, 6, .inl co))]) (wr := []) (Wd' := fun u => [(m, .inr (3, [.ref (am 0), .ref (am 1), .ref (am 2), .ref (am 3), .ref (am 4), .ref (am 5), .ref (am 6), .ref (am 7), .int rd, .int wr, .int (-1)])), (am 0, .inl (K.2.1, 2, .inl po)), (am 1, .inl (K.2.1, 2, .inl ca)), (am 2, .inl (K.2.1, 2, .inl go)), (am 3, .inl (K.2.1, 8, .inl le)), (am 4, .inl (K.2.1, 160, .inl pg)), (am 5, .inl (K.2.2.1, 128, .inl mk)), (am 6, .inl (K.2.2.1, 128, .inl we)), (am 7, .inl (K.2.1, 6, .inl co))]) (g_goV (pc := 74) hX (As := [.int (nI ((4 * t) + 3)), .int (nI x)]) (stk := []) (wc := [(m, .inr (3, [.ref (am 0), .ref (am 1), .ref (am 2), .ref (am 3), .ref (am 4), .ref (am 5), .ref (am 6), .ref (am 7), .int rd, .int wr, .int (-1)])), (am 0, .inl (K.2.1, 2, .inl po)), (am 1, .inl (K.2.1, 2, .inl ca)), (am 2, .inl (K.2.1, 2, .inl go)), (am 3, .inl (K.2.1, 8, .inl le)), (am 4, .inl (K.2.1, 160, .inl pg)), (am 5, .inl (K.2.2.1, 128, .inl mk)), (am 6, .inl (K.2.2.1, 128, .inl we)), (am 7, .inl (K.2.1, 6, .inl co))]) (c_X3_isIn l K m am po ca go le pg mk we co rd wr (-1) (rr t a b d e RO) hR ((4 * t) + 3) (by omega) x hx) rfl rfl rfl gX3_balanced_X3_isIn nX3_isInV rfl 0 rfl ⟨(Nat.le_of_ble_eq_true rfl), (Nat.le_of_ble_eq_true rfl)⟩ [0, 1, 2, 3, 4, 5, 6, 7, 8] rfl rfl rfl (Nat.le_of_ble_eq_true rfl) dX3_balanced_74 ⟨(Nat.le_of_ble_eq_true rfl), (Nat.le_of_ble_eq_true rfl)⟩) [0, 1, 2, 3, 4, 5, 6, 7, 8] [] [0, 1, 2, 3, 4, 5, 6, 7, 8] rfl rfl rfl (by decide) rfl (fun _ => rfl) (fun r u h74 => ?_)
        obtain rfl := h74
        refine g_top (y := (bI (decide (x ∈ e)))) (by rw [rr_3]) ?_
        refine g_ifB_eq (pc := 77) (tgt := 96) hX dX3_balanced_77 (by decide) (fun c77 => ?_) (fun c77 => ?_)
        · have hm3 : x ∉ e := of_decide_eq_false c77
          refine g_aload_n (pc := 96) hX dX3_balanced_96 rfl 2 rfl ?_
          refine g_get (pc := 97) (C := RX3) (T := TX3) (N := 11) (ci := 3) (v := .ref (am 3)) hX inX3_balanced_X3 0 rfl rfl 3 (by decide) flX3_balanced_19 rfl rfl dX3_balanced_97 ?_
          refine g_iload_n (pc := 100) hX dX3_balanced_100 rfl 1 rfl ?_
          refine g_iald (pc := 101) (v := (nI a.length)) hX 4 rfl (by omega) (by omega) (rr_l0 hR ht).1 dX3_balanced_101 ?_
          refine g_aload_n (pc := 102) hX dX3_balanced_102 rfl 2 rfl ?_
          refine g_get (pc := 103) (C := RX3) (T := TX3) (N := 11) (ci := 3) (v := .ref (am 3)) hX inX3_balanced_X3 0 rfl rfl 3 (by decide) flX3_balanced_19 rfl rfl dX3_balanced_103 ?_
          refine g_iload_n (pc := 106) hX dX3_balanced_106 rfl 1 rfl ?_
          refine g_iconst (pc := 107) (v := (nI 2)) hX dX3_balanced_107 (by decide) ?_
          refine g_iaddN (pc := 108) (r := (4 * t) + 2) hX dX3_balanced_108 (by first | rfl | omega) ?_
          refine g_iald (pc := 109) (v := (nI d.length)) hX 4 rfl (by omega) (by omega) (rr_l2 hR ht).1 dX3_balanced_109 ?_
          refine g_iaddN (pc := 110) (r := a.length + d.length) hX dX3_balanced_110 (by first | rfl | omega) ?_
          refine g_istore (pc := 111) (lv' := [(5, .int (nI (a.length + d.length))), (4, .int (nI c)), (3, .int (nI (4 * t))), (0, .ref m), (1, .int (nI t)), (2, .int (nI x))]) hX dX3_balanced_111 (by decide) rfl ?_
          refine g_iload (pc := 113) hX dX3_balanced_113 0 rfl ?_
          refine g_aload_n (pc := 115) hX dX3_balanced_115 rfl 3 rfl ?_
          refine g_get (pc := 116) (C := RX3) (T := TX3) (N := 11) (ci := 3) (v := .ref (am 3)) hX inX3_balanced_X3 0 rfl rfl 3 (by decide) flX3_balanced_19 rfl rfl dX3_balanced_116 ?_
          refine g_iload_n (pc := 119) hX dX3_balanced_119 rfl 2 rfl ?_
          refine g_iconst (pc := 120) (v := (nI 1)) hX dX3_balanced_120 (by decide) ?_
          refine g_iaddN (pc := 121) (r := (4 * t) + 1) hX dX3_balanced_121 (by first | rfl | omega) ?_
          refine g_iald (pc := 122) (v := (nI b.length)) hX 4 rfl (by omega) (by omega) (rr_l1 hR ht).1 dX3_balanced_122 ?_
          refine g_iaddN (pc := 123) (r := (a.length + d.length) + b.length) hX dX3_balanced_123 (by first | rfl | omega) ?_
          refine g_aload_n (pc := 124) hX dX3_balanced_124 rfl 3 rfl ?_
          refine g_get (pc := 125) (C := RX3) (T := TX3) (N := 11) (ci := 3) (v := .ref (am 3)) hX inX3_balanced_X3 0 rfl rfl 3 (by decide) flX3_balanced_19 rfl rfl dX3_balanced_125 ?_
          refine g_iload_n (pc := 128) hX dX3_balanced_128 rfl 2 rfl ?_
          refine g_iconst (pc := 129) (v := (nI 3)) hX dX3_balanced_129 (by decide) ?_
          refine g_iaddN (pc := 130) (r := (4 * t) + 3) hX dX3_balanced_130 (by first | rfl | omega) ?_
          refine g_iald (pc := 131) (v := (nI e.length)) hX 4 rfl (by omega) (by omega) (rr_l3 hR ht).1 dX3_balanced_131 ?_
          refine g_iaddN (pc := 132) (r := ((a.length + d.length) + b.length) + e.length) hX dX3_balanced_132 (by first | rfl | omega) ?_
          refine g_istore (pc := 133) (lv' := [(6, .int (nI (((a.length + d.length) + b.length) + e.length))), (5, .int (nI (a.length + d.length))), (4, .int (nI c)), (3, .int (nI (4 * t))), (0, .ref m), (1, .int (nI t)), (2, .int (nI x))]) hX dX3_balanced_133 (by decide) rfl ?_
          refine g_iload (pc := 135) hX dX3_balanced_135 1 rfl ?_
          refine g_iload (pc := 137) hX dX3_balanced_137 2 rfl ?_
          refine g_icmpN_ne (pc := 139) (tgt := 192) hX (by omega) (by omega) dX3_balanced_139 (by decide) (fun c139 => ?_) (fun c139 => ?_)
          · refine g_iload (pc := 192) hX dX3_balanced_192 0 rfl ?_
            refine g_iload (pc := 194) hX dX3_balanced_194 2 rfl ?_
            refine g_icmpN_lt (pc := 196) (tgt := 243) hX (by omega) (by omega) dX3_balanced_196 (by decide) (fun c196 => ?_) (fun c196 => ?_)
            · refine g_aload_n (pc := 243) hX dX3_balanced_243 rfl 4 rfl ?_
              refine g_iload_n (pc := 244) hX dX3_balanced_244 rfl 3 rfl ?_
              refine g_iload_n (pc := 245) hX dX3_balanced_245 rfl 6 rfl ?_
              refine g_cv (pc := 246) hX (wc := [(m, .inr (3, [.ref (am 0), .ref (am 1), .ref (am 2), .ref (am 3), .ref (am 4), .ref (am 5), .ref (am 6), .ref (am 7), .int rd, .int wr, .int (-1)])), (am 0, .inl (K.2.1, 2, .inl po)), (am 1, .inl (K.2.1, 2, .inl ca)), (am 2, .inl (K.2.1, 2, .inl go)), (am 3, .inl (K.2.1, 8, .inl le)), (am 4, .inl (K.2.1, 160, .inl pg)), (am 5, .inl (K.2.2.1, 128, .inl mk)), (am 6, .inl (K.2.2.1, 128, .inl we)), (am 7, .inl (K.2.1, 6, .inl co))]) (wr := []) (Wd' := fun u246 => [(m, .inr (3, [.ref (am 0), .ref (am 1), .ref (am 2), .ref (am 3), .ref (am 4), .ref (am 5), .ref (am 6), .ref (am 7), .int rd, .int wr, .int (-1)])), (am 0, .inl (K.2.1, 2, .inl po)), (am 1, .inl (K.2.1, 2, .inl ca)), (am 2, .inl (K.2.1, 2, .inl go)), (am 3, .inl (K.2.1, 8, .inl u246.1)), (am 4, .inl (K.2.1, 160, .inl u246.2)), (am 5, .inl (K.2.2.1, 128, .inl mk)), (am 6, .inl (K.2.2.1, 128, .inl we)), (am 7, .inl (K.2.1, 6, .inl co))]) (g_goV (pc := 246) hX (As := [.int (nI (4 * t)), .int (nI x)]) (stk := []) (wc := [(m, .inr (3, [.ref (am 0), .ref (am 1), .ref (am 2), .ref (am 3), .ref (am 4), .ref (am 5), .ref (am 6), .ref (am 7), .int rd, .int wr, .int (-1)])), (am 0, .inl (K.2.1, 2, .inl po)), (am 1, .inl (K.2.1, 2, .inl ca)), (am 2, .inl (K.2.1, 2, .inl go)), (am 3, .inl (K.2.1, 8, .inl le)), (am 4, .inl (K.2.1, 160, .inl pg)), (am 5, .inl (K.2.2.1, 128, .inl mk)), (am 6, .inl (K.2.2.1, 128, .inl we)), (am 7, .inl (K.2.1, 6, .inl co))]) (c_X3_toHead l K m am po ca go le pg mk we co rd wr (-1) (rr t a b d e RO) hR (4 * t) (by omega) x hx (by rw [rr_0]; show a.length + 1 ≤ 20; omega)) rfl rfl rfl gX3_balanced_X3_toHead nX3_toHeadV rfl 0 rfl ⟨(Nat.le_of_ble_eq_true rfl), (Nat.le_of_ble_eq_true rfl)⟩ [0, 1, 2, 3, 4, 5, 6, 7, 8] rfl rfl rfl (Nat.le_of_ble_eq_true rfl) dX3_balanced_246 ⟨(Nat.le_of_ble_eq_true rfl), (Nat.le_of_ble_eq_true rfl)⟩) [0, 1, 2, 3, 4, 5, 6, 7, 8] [] [0, 1, 2, 3, 4, 5, 6, 7, 8] rfl rfl rfl (by decide) rfl (fun _ => rfl) (fun u246 h246 => ?_)
              have hR246 := h246
              rw [rr_0, rr_u0] at hR246
              refine g_iconst (pc := 249) (v := (nI 0)) hX dX3_balanced_249 (by decide) ?_
              refine g_top (y := bI false) (by decide) ?_
              refine g_ws (ws' := [(m, .inr (3, [.ref (am 0), .ref (am 1), .ref (am 2), .ref (am 3), .ref (am 4), .ref (am 5), .ref (am 6), .ref (am 7), .int rd, .int wr, .int (-1)])), (am 0, .inl (K.2.1, 2, .inl po)), (am 1, .inl (K.2.1, 2, .inl ca)), (am 2, .inl (K.2.1, 2, .inl (upd go t (nI g)))), (am 3, .inl (K.2.1, 8, .inl u246.1)), (am 4, .inl (K.2.1, 160, .inl u246.2)), (am 5, .inl (K.2.2.1, 128, .inl mk)), (am 6, .inl (K.2.2.1, 128, .inl we)), (am 7, .inl (K.2.1, 6, .inl co))]) (by rw [upd_same hgo]) ?_
              rw [show sBal c g a b d e x = (none, g, x :: a, b, d, e) from by unfold sBal sNew; rw [if_neg hm0, if_neg hm1, if_neg hm2, if_neg hm3, if_neg c139, if_pos c196]] at hs
              cases hs
              exact hret (v := false) (u := (u246.1, u246.2, (-1))) dX3_balanced_250 (⟨by unfold sHolds; rw [if_neg (by decide), decide_eq_false hm0, decide_eq_false (p := x ∈ b) hm1]; rfl, hR246, rfl⟩) rfl
            · have hf : a.length + b.length = c := by
                rcases Nat.eq_zero_or_pos (d.length + e.length) with z | z
                · omega
                · exact hful z
              refine g_aload_n (pc := 199) hX dX3_balanced_199 rfl 4 rfl ?_
              refine g_get (pc := 200) (C := RX3) (T := TX3) (N := 11) (ci := 3) (v := .ref (am 3)) hX inX3_balanced_X3 0 rfl rfl 3 (by decide) flX3_balanced_19 rfl rfl dX3_balanced_200 ?_
              refine g_iload_n (pc := 203) hX dX3_balanced_203 rfl 3 rfl ?_
              refine g_iconst (pc := 204) (v := (nI 3)) hX dX3_balanced_204 (by decide) ?_
              refine g_iaddN (pc := 205) (r := (4 * t) + 3) hX dX3_balanced_205 (by first | rfl | omega) ?_
              refine g_iload (pc := 206) hX dX3_balanced_206 0 rfl ?_
              refine g_iconst (pc := 208) (v := (nI 2)) hX dX3_balanced_208 (by decide) ?_
              refine g_iload (pc := 209) hX dX3_balanced_209 2 rfl ?_
              refine g_imulN (pc := 211) (r := 2 * c) hX dX3_balanced_211 (by first | rfl | omega) ?_
              refine g_icmpN_ne (pc := 212) (tgt := 228) hX (by omega) (by omega) dX3_balanced_212 (by decide) (fun c212 => ?_) (fun c212 => ?_)
              · refine g_aload_n (pc := 228) hX dX3_balanced_228 rfl 4 rfl ?_
                refine g_get (pc := 229) (C := RX3) (T := TX3) (N := 11) (ci := 3) (v := .ref (am 3)) hX inX3_balanced_X3 0 rfl rfl 3 (by decide) flX3_balanced_19 rfl rfl dX3_balanced_229 ?_
                refine g_iload_n (pc := 232) hX dX3_balanced_232 rfl 3 rfl ?_
                refine g_iconst (pc := 233) (v := (nI 3)) hX dX3_balanced_233 (by decide) ?_
                refine g_iaddN (pc := 234) (r := (4 * t) + 3) hX dX3_balanced_234 (by first | rfl | omega) ?_
                refine g_iald (pc := 235) (v := (nI e.length)) hX 4 rfl (by omega) (by omega) (rr_l3 hR ht).1 dX3_balanced_235 ?_
                refine g_iast (pc := 236) (ws' := [(m, .inr (3, [.ref (am 0), .ref (am 1), .ref (am 2), .ref (am 3), .ref (am 4), .ref (am 5), .ref (am 6), .ref (am 7), .int rd, .int wr, .int (-1)])), (am 0, .inl (K.2.1, 2, .inl po)), (am 1, .inl (K.2.1, 2, .inl ca)), (am 2, .inl (K.2.1, 2, .inl go)), (am 3, .inl (K.2.1, 8, .inl (upd le ((4 * t) + 3) (nI e.length)))), (am 4, .inl (K.2.1, 160, .inl pg)), (am 5, .inl (K.2.2.1, 128, .inl mk)), (am 6, .inl (K.2.2.1, 128, .inl we)), (am 7, .inl (K.2.1, 6, .inl co))]) hX 4 rfl (by omega) (by omega) rfl dX3_balanced_236 ?_
                refine g_ws (ws' := [(m, .inr (3, [.ref (am 0), .ref (am 1), .ref (am 2), .ref (am 3), .ref (am 4), .ref (am 5), .ref (am 6), .ref (am 7), .int rd, .int wr, .int (-1)])), (am 0, .inl (K.2.1, 2, .inl po)), (am 1, .inl (K.2.1, 2, .inl ca)), (am 2, .inl (K.2.1, 2, .inl go)), (am 3, .inl (K.2.1, 8, .inl le)), (am 4, .inl (K.2.1, 160, .inl pg)), (am 5, .inl (K.2.2.1, 128, .inl mk)), (am 6, .inl (K.2.2.1, 128, .inl we)), (am 7, .inl (K.2.1, 6, .inl co))]) (by rw [upd_same (rr_l3 hR ht).1]) ?_
                refine g_aload_n (pc := 237) hX dX3_balanced_237 rfl 4 rfl ?_
                refine g_iload_n (pc := 238) hX dX3_balanced_238 rfl 5 rfl ?_
                refine g_iconst (pc := 239) (v := (nI 0)) hX dX3_balanced_239 (by decide) ?_
                refine g_top (y := (bI false)) (by decide) ?_
                refine g_cv (pc := 240) hX (wc := [(m, .inr (3, [.ref (am 0), .ref (am 1), .ref (am 2), .ref (am 3), .ref (am 4), .ref (am 5), .ref (am 6), .ref (am 7), .int rd, .int wr, .int (-1)])), (am 0, .inl (K.2.1, 2, .inl po)), (am 1, .inl (K.2.1, 2, .inl ca)), (am 2, .inl (K.2.1, 2, .inl go)), (am 3, .inl (K.2.1, 8, .inl le)), (am 4, .inl (K.2.1, 160, .inl pg)), (am 5, .inl (K.2.2.1, 128, .inl mk)), (am 6, .inl (K.2.2.1, 128, .inl we)), (am 7, .inl (K.2.1, 6, .inl co))]) (wr := []) (Wd' := fun u240 => [(m, .inr (3, [.ref (am 0), .ref (am 1), .ref (am 2), .ref (am 3), .ref (am 4), .ref (am 5), .ref (am 6), .ref (am 7), .int rd, .int wr, .int u240.2.2])), (am 0, .inl (K.2.1, 2, .inl po)), (am 1, .inl (K.2.1, 2, .inl ca)), (am 2, .inl (K.2.1, 2, .inl go)), (am 3, .inl (K.2.1, 8, .inl u240.1)), (am 4, .inl (K.2.1, 160, .inl u240.2.1)), (am 5, .inl (K.2.2.1, 128, .inl mk)), (am 6, .inl (K.2.2.1, 128, .inl we)), (am 7, .inl (K.2.1, 6, .inl co))]) (g_goV (pc := 240) hX (As := [.int (nI t), .int (bI false)]) (stk := []) (wc := [(m, .inr (3, [.ref (am 0), .ref (am 1), .ref (am 2), .ref (am 3), .ref (am 4), .ref (am 5), .ref (am 6), .ref (am 7), .int rd, .int wr, .int (-1)])), (am 0, .inl (K.2.1, 2, .inl po)), (am 1, .inl (K.2.1, 2, .inl ca)), (am 2, .inl (K.2.1, 2, .inl go)), (am 3, .inl (K.2.1, 8, .inl le)), (am 4, .inl (K.2.1, 160, .inl pg)), (am 5, .inl (K.2.2.1, 128, .inl mk)), (am 6, .inl (K.2.2.1, 128, .inl we)), (am 7, .inl (K.2.1, 6, .inl co))]) (c_X3_putOut l K m am po ca go le pg mk we co rd wr (-1) t ht c g a b d e RO hR hca hgo (by omega) false (pBal_b (d2 := d) hB hg hf (Or.inl (by omega))) (by omega) (by omega)) rfl rfl rfl gX3_balanced_X3_putOut nX3_putOutV rfl 0 rfl ⟨(Nat.le_of_ble_eq_true rfl), (Nat.le_of_ble_eq_true rfl)⟩ [0, 1, 2, 3, 4, 5, 6, 7, 8] rfl rfl rfl (Nat.le_of_ble_eq_true rfl) dX3_balanced_240 ⟨(Nat.le_of_ble_eq_true rfl), (Nat.le_of_ble_eq_true rfl)⟩) [0, 1, 2, 3, 4, 5, 6, 7, 8] [] [0, 1, 2, 3, 4, 5, 6, 7, 8] rfl rfl rfl (by decide) rfl (fun _ => rfl) (fun u240 h240 => ?_)
                obtain ⟨hR240, hvi⟩ := h240
                have hob := sOut_b g false a b d e
                have hoa := sOut_a g false a b d e
                refine g_aload_n (pc := 243) hX dX3_balanced_243 rfl 4 rfl ?_
                refine g_iload_n (pc := 244) hX dX3_balanced_244 rfl 3 rfl ?_
                refine g_iload_n (pc := 245) hX dX3_balanced_245 rfl 6 rfl ?_
                refine g_cv (pc := 246) hX (wc := [(m, .inr (3, [.ref (am 0), .ref (am 1), .ref (am 2), .ref (am 3), .ref (am 4), .ref (am 5), .ref (am 6), .ref (am 7), .int rd, .int wr, .int u240.2.2])), (am 0, .inl (K.2.1, 2, .inl po)), (am 1, .inl (K.2.1, 2, .inl ca)), (am 2, .inl (K.2.1, 2, .inl go)), (am 3, .inl (K.2.1, 8, .inl u240.1)), (am 4, .inl (K.2.1, 160, .inl u240.2.1)), (am 5, .inl (K.2.2.1, 128, .inl mk)), (am 6, .inl (K.2.2.1, 128, .inl we)), (am 7, .inl (K.2.1, 6, .inl co))]) (wr := []) (Wd' := fun u246 => [(m, .inr (3, [.ref (am 0), .ref (am 1), .ref (am 2), .ref (am 3), .ref (am 4), .ref (am 5), .ref (am 6), .ref (am 7), .int rd, .int wr, .int u240.2.2])), (am 0, .inl (K.2.1, 2, .inl po)), (am 1, .inl (K.2.1, 2, .inl ca)), (am 2, .inl (K.2.1, 2, .inl go)), (am 3, .inl (K.2.1, 8, .inl u246.1)), (am 4, .inl (K.2.1, 160, .inl u246.2)), (am 5, .inl (K.2.2.1, 128, .inl mk)), (am 6, .inl (K.2.2.1, 128, .inl we)), (am 7, .inl (K.2.1, 6, .inl co))]) (g_goV (pc := 246) hX (As := [.int (nI (4 * t)), .int (nI x)]) (stk := []) (wc := [(m, .inr (3, [.ref (am 0), .ref (am 1), .ref (am 2), .ref (am 3), .ref (am 4), .ref (am 5), .ref (am 6), .ref (am 7), .int rd, .int wr, .int u240.2.2])), (am 0, .inl (K.2.1, 2, .inl po)), (am 1, .inl (K.2.1, 2, .inl ca)), (am 2, .inl (K.2.1, 2, .inl go)), (am 3, .inl (K.2.1, 8, .inl u240.1)), (am 4, .inl (K.2.1, 160, .inl u240.2.1)), (am 5, .inl (K.2.2.1, 128, .inl mk)), (am 6, .inl (K.2.2.1, 128, .inl we)), (am 7, .inl (K.2.1, 6, .inl co))]) (c_X3_toHead l K m am po ca go u240.1 u240.2.1 mk we co rd wr u240.2.2 (rr t ((sOut g false a b d e).2.1) ((sOut g false a b d e).2.2.1) ((sOut g false a b d e).2.2.2.1) ((sOut g false a b d e).2.2.2.2) RO) hR240 (4 * t) (by omega) x hx (by rw [rr_0]; show ((sOut g false a b d e).2.1).length + 1 ≤ 20; omega)) rfl rfl rfl gX3_balanced_X3_toHead nX3_toHeadV rfl 0 rfl ⟨(Nat.le_of_ble_eq_true rfl), (Nat.le_of_ble_eq_true rfl)⟩ [0, 1, 2, 3, 4, 5, 6, 7, 8] rfl rfl rfl (Nat.le_of_ble_eq_true rfl) dX3_balanced_246 ⟨(Nat.le_of_ble_eq_true rfl), (Nat.le_of_ble_eq_true rfl)⟩) [0, 1, 2, 3, 4, 5, 6, 7, 8] [] [0, 1, 2, 3, 4, 5, 6, 7, 8] rfl rfl rfl (by decide) rfl (fun _ => rfl) (fun u246 h246 => ?_)
                have hR246 := h246
                rw [rr_0, rr_u0] at hR246
                refine g_iconst (pc := 249) (v := (nI 0)) hX dX3_balanced_249 (by decide) ?_
                refine g_top (y := bI false) (by decide) ?_
                refine g_ws (ws' := [(m, .inr (3, [.ref (am 0), .ref (am 1), .ref (am 2), .ref (am 3), .ref (am 4), .ref (am 5), .ref (am 6), .ref (am 7), .int rd, .int wr, .int u240.2.2])), (am 0, .inl (K.2.1, 2, .inl po)), (am 1, .inl (K.2.1, 2, .inl ca)), (am 2, .inl (K.2.1, 2, .inl (upd go t (nI g)))), (am 3, .inl (K.2.1, 8, .inl u246.1)), (am 4, .inl (K.2.1, 160, .inl u246.2)), (am 5, .inl (K.2.2.1, 128, .inl mk)), (am 6, .inl (K.2.2.1, 128, .inl we)), (am 7, .inl (K.2.1, 6, .inl co))]) (by rw [upd_same hgo]) ?_
                rw [show sBal c g a b d e x = (some (sOut g false a b d e).1, g, x :: (sOut g false a b d e).2.1, (sOut g false a b d e).2.2.1, (sOut g false a b d e).2.2.2.1, (sOut g false a b d e).2.2.2.2) from by unfold sBal sNew; rw [if_neg hm0, if_neg hm1, if_neg hm2, if_neg hm3, if_neg c139, if_neg (by omega), if_neg c212]] at hs
                cases hs
                exact hret (v := false) (u := (u246.1, u246.2, u240.2.2)) dX3_balanced_250 (⟨by unfold sHolds; rw [if_neg (by decide), decide_eq_false hm0, decide_eq_false (p := x ∈ b) hm1]; rfl, hR246, hvi⟩) rfl
              · refine g_aload_n (pc := 215) hX dX3_balanced_215 rfl 4 rfl ?_
                refine g_get (pc := 216) (C := RX3) (T := TX3) (N := 11) (ci := 3) (v := .ref (am 3)) hX inX3_balanced_X3 0 rfl rfl 3 (by decide) flX3_balanced_19 rfl rfl dX3_balanced_216 ?_
                refine g_iload_n (pc := 219) hX dX3_balanced_219 rfl 3 rfl ?_
                refine g_iconst (pc := 220) (v := (nI 3)) hX dX3_balanced_220 (by decide) ?_
                refine g_iaddN (pc := 221) (r := (4 * t) + 3) hX dX3_balanced_221 (by first | rfl | omega) ?_
                refine g_iald (pc := 222) (v := (nI e.length)) hX 4 rfl (by omega) (by omega) (rr_l3 hR ht).1 dX3_balanced_222 ?_
                refine g_iconst (pc := 223) (v := (nI 1)) hX dX3_balanced_223 (by decide) ?_
                refine g_isubN (pc := 224) (r := e.length - 1) hX dX3_balanced_224 (by omega) ?_
                refine g_goto (pc := 225) (tgt := 236) hX dX3_balanced_225 (by decide) ?_
                refine g_iast (pc := 236) (ws' := [(m, .inr (3, [.ref (am 0), .ref (am 1), .ref (am 2), .ref (am 3), .ref (am 4), .ref (am 5), .ref (am 6), .ref (am 7), .int rd, .int wr, .int (-1)])), (am 0, .inl (K.2.1, 2, .inl po)), (am 1, .inl (K.2.1, 2, .inl ca)), (am 2, .inl (K.2.1, 2, .inl go)), (am 3, .inl (K.2.1, 8, .inl (upd le ((4 * t) + 3) (nI (e.length - 1))))), (am 4, .inl (K.2.1, 160, .inl pg)), (am 5, .inl (K.2.2.1, 128, .inl mk)), (am 6, .inl (K.2.2.1, 128, .inl we)), (am 7, .inl (K.2.1, 6, .inl co))]) hX 4 rfl (by omega) (by omega) rfl dX3_balanced_236 ?_
                have hR237 := rowsR.cut hR (w := 4 * t + 3) (by omega)
                rw [rr_3, rr_u3] at hR237
                have hd237 := dl_len e
                refine g_aload_n (pc := 237) hX dX3_balanced_237 rfl 4 rfl ?_
                refine g_iload_n (pc := 238) hX dX3_balanced_238 rfl 5 rfl ?_
                refine g_iconst (pc := 239) (v := (nI 0)) hX dX3_balanced_239 (by decide) ?_
                refine g_top (y := (bI false)) (by decide) ?_
                refine g_cv (pc := 240) hX (wc := [(m, .inr (3, [.ref (am 0), .ref (am 1), .ref (am 2), .ref (am 3), .ref (am 4), .ref (am 5), .ref (am 6), .ref (am 7), .int rd, .int wr, .int (-1)])), (am 0, .inl (K.2.1, 2, .inl po)), (am 1, .inl (K.2.1, 2, .inl ca)), (am 2, .inl (K.2.1, 2, .inl go)), (am 3, .inl (K.2.1, 8, .inl (upd le ((4 * t) + 3) (nI (e.length - 1))))), (am 4, .inl (K.2.1, 160, .inl pg)), (am 5, .inl (K.2.2.1, 128, .inl mk)), (am 6, .inl (K.2.2.1, 128, .inl we)), (am 7, .inl (K.2.1, 6, .inl co))]) (wr := []) (Wd' := fun u240 => [(m, .inr (3, [.ref (am 0), .ref (am 1), .ref (am 2), .ref (am 3), .ref (am 4), .ref (am 5), .ref (am 6), .ref (am 7), .int rd, .int wr, .int u240.2.2])), (am 0, .inl (K.2.1, 2, .inl po)), (am 1, .inl (K.2.1, 2, .inl ca)), (am 2, .inl (K.2.1, 2, .inl go)), (am 3, .inl (K.2.1, 8, .inl u240.1)), (am 4, .inl (K.2.1, 160, .inl u240.2.1)), (am 5, .inl (K.2.2.1, 128, .inl mk)), (am 6, .inl (K.2.2.1, 128, .inl we)), (am 7, .inl (K.2.1, 6, .inl co))]) (g_goV (pc := 240) hX (As := [.int (nI t), .int (bI false)]) (stk := []) (wc := [(m, .inr (3, [.ref (am 0), .ref (am 1), .ref (am 2), .ref (am 3), .ref (am 4), .ref (am 5), .ref (am 6), .ref (am 7), .int rd, .int wr, .int (-1)])), (am 0, .inl (K.2.1, 2, .inl po)), (am 1, .inl (K.2.1, 2, .inl ca)), (am 2, .inl (K.2.1, 2, .inl go)), (am 3, .inl (K.2.1, 8, .inl (upd le ((4 * t) + 3) (nI (e.length - 1))))), (am 4, .inl (K.2.1, 160, .inl pg)), (am 5, .inl (K.2.2.1, 128, .inl mk)), (am 6, .inl (K.2.2.1, 128, .inl we)), (am 7, .inl (K.2.1, 6, .inl co))]) (c_X3_putOut l K m am po ca go (upd le ((4 * t) + 3) (nI (e.length - 1))) pg mk we co rd wr (-1) t ht c g a b d e.dropLast RO hR237 hca hgo (by omega) false (pBal_b (d2 := d) hB hg hf (Or.inl (by omega))) (by omega) (by omega)) rfl rfl rfl gX3_balanced_X3_putOut nX3_putOutV rfl 0 rfl ⟨(Nat.le_of_ble_eq_true rfl), (Nat.le_of_ble_eq_true rfl)⟩ [0, 1, 2, 3, 4, 5, 6, 7, 8] rfl rfl rfl (Nat.le_of_ble_eq_true rfl) dX3_balanced_240 ⟨(Nat.le_of_ble_eq_true rfl), (Nat.le_of_ble_eq_true rfl)⟩) [0, 1, 2, 3, 4, 5, 6, 7, 8] [] [0, 1, 2, 3, 4, 5, 6, 7, 8] rfl rfl rfl (by decide) rfl (fun _ => rfl) (fun u240 h240 => ?_)
                obtain ⟨hR240, hvi⟩ := h240
                have hob := sOut_b g false a b d e.dropLast
                have hoa := sOut_a g false a b d e.dropLast
                refine g_aload_n (pc := 243) hX dX3_balanced_243 rfl 4 rfl ?_
                refine g_iload_n (pc := 244) hX dX3_balanced_244 rfl 3 rfl ?_
                refine g_iload_n (pc := 245) hX dX3_balanced_245 rfl 6 rfl ?_
                refine g_cv (pc := 246) hX (wc := [(m, .inr (3, [.ref (am 0), .ref (am 1), .ref (am 2), .ref (am 3), .ref (am 4), .ref (am 5), .ref (am 6), .ref (am 7), .int rd, .int wr, .int u240.2.2])), (am 0, .inl (K.2.1, 2, .inl po)), (am 1, .inl (K.2.1, 2, .inl ca)), (am 2, .inl (K.2.1, 2, .inl go)), (am 3, .inl (K.2.1, 8, .inl u240.1)), (am 4, .inl (K.2.1, 160, .inl u240.2.1)), (am 5, .inl (K.2.2.1, 128, .inl mk)), (am 6, .inl (K.2.2.1, 128, .inl we)), (am 7, .inl (K.2.1, 6, .inl co))]) (wr := []) (Wd' := fun u246 => [(m, .inr (3, [.ref (am 0), .ref (am 1), .ref (am 2), .ref (am 3), .ref (am 4), .ref (am 5), .ref (am 6), .ref (am 7), .int rd, .int wr, .int u240.2.2])), (am 0, .inl (K.2.1, 2, .inl po)), (am 1, .inl (K.2.1, 2, .inl ca)), (am 2, .inl (K.2.1, 2, .inl go)), (am 3, .inl (K.2.1, 8, .inl u246.1)), (am 4, .inl (K.2.1, 160, .inl u246.2)), (am 5, .inl (K.2.2.1, 128, .inl mk)), (am 6, .inl (K.2.2.1, 128, .inl we)), (am 7, .inl (K.2.1, 6, .inl co))]) (g_goV (pc := 246) hX (As := [.int (nI (4 * t)), .int (nI x)]) (stk := []) (wc := [(m, .inr (3, [.ref (am 0), .ref (am 1), .ref (am 2), .ref (am 3), .ref (am 4), .ref (am 5), .ref (am 6), .ref (am 7), .int rd, .int wr, .int u240.2.2])), (am 0, .inl (K.2.1, 2, .inl po)), (am 1, .inl (K.2.1, 2, .inl ca)), (am 2, .inl (K.2.1, 2, .inl go)), (am 3, .inl (K.2.1, 8, .inl u240.1)), (am 4, .inl (K.2.1, 160, .inl u240.2.1)), (am 5, .inl (K.2.2.1, 128, .inl mk)), (am 6, .inl (K.2.2.1, 128, .inl we)), (am 7, .inl (K.2.1, 6, .inl co))]) (c_X3_toHead l K m am po ca go u240.1 u240.2.1 mk we co rd wr u240.2.2 (rr t ((sOut g false a b d e.dropLast).2.1) ((sOut g false a b d e.dropLast).2.2.1) ((sOut g false a b d e.dropLast).2.2.2.1) ((sOut g false a b d e.dropLast).2.2.2.2) RO) hR240 (4 * t) (by omega) x hx (by rw [rr_0]; show ((sOut g false a b d e.dropLast).2.1).length + 1 ≤ 20; omega)) rfl rfl rfl gX3_balanced_X3_toHead nX3_toHeadV rfl 0 rfl ⟨(Nat.le_of_ble_eq_true rfl), (Nat.le_of_ble_eq_true rfl)⟩ [0, 1, 2, 3, 4, 5, 6, 7, 8] rfl rfl rfl (Nat.le_of_ble_eq_true rfl) dX3_balanced_246 ⟨(Nat.le_of_ble_eq_true rfl), (Nat.le_of_ble_eq_true rfl)⟩) [0, 1, 2, 3, 4, 5, 6, 7, 8] [] [0, 1, 2, 3, 4, 5, 6, 7, 8] rfl rfl rfl (by decide) rfl (fun _ => rfl) (fun u246 h246 => ?_)
                have hR246 := h246
                rw [rr_0, rr_u0] at hR246
                refine g_iconst (pc := 249) (v := (nI 0)) hX dX3_balanced_249 (by decide) ?_
                refine g_top (y := bI false) (by decide) ?_
                refine g_ws (ws' := [(m, .inr (3, [.ref (am 0), .ref (am 1), .ref (am 2), .ref (am 3), .ref (am 4), .ref (am 5), .ref (am 6), .ref (am 7), .int rd, .int wr, .int u240.2.2])), (am 0, .inl (K.2.1, 2, .inl po)), (am 1, .inl (K.2.1, 2, .inl ca)), (am 2, .inl (K.2.1, 2, .inl (upd go t (nI g)))), (am 3, .inl (K.2.1, 8, .inl u246.1)), (am 4, .inl (K.2.1, 160, .inl u246.2)), (am 5, .inl (K.2.2.1, 128, .inl mk)), (am 6, .inl (K.2.2.1, 128, .inl we)), (am 7, .inl (K.2.1, 6, .inl co))]) (by rw [upd_same hgo]) ?_
                rw [show sBal c g a b d e x = (some (sOut g false a b d e.dropLast).1, g, x :: (sOut g false a b d e.dropLast).2.1, (sOut g false a b d e.dropLast).2.2.1, (sOut g false a b d e.dropLast).2.2.2.1, (sOut g false a b d e.dropLast).2.2.2.2) from by unfold sBal sNew; rw [if_neg hm0, if_neg hm1, if_neg hm2, if_neg hm3, if_neg c139, if_neg (by omega), if_pos c212]] at hs
                cases hs
                exact hret (v := false) (u := (u246.1, u246.2, u240.2.2)) dX3_balanced_250 (⟨by unfold sHolds; rw [if_neg (by decide), decide_eq_false hm0, decide_eq_false (p := x ∈ b) hm1]; rfl, hR246, hvi⟩) rfl
          · refine g_aload_n (pc := 142) hX dX3_balanced_142 rfl 4 rfl ?_
            refine g_get (pc := 143) (C := RX3) (T := TX3) (N := 11) (ci := 3) (v := .ref (am 3)) hX inX3_balanced_X3 0 rfl rfl 3 (by decide) flX3_balanced_19 rfl rfl dX3_balanced_143 ?_
            refine g_iload_n (pc := 146) hX dX3_balanced_146 rfl 3 rfl ?_
            refine g_iald (pc := 147) (v := (nI a.length)) hX 4 rfl (by omega) (by omega) (rr_l0 hR ht).1 dX3_balanced_147 ?_
            refine g_iload (pc := 148) hX dX3_balanced_148 2 rfl ?_
            refine g_icmpN_ge (pc := 150) (tgt := 180) hX (by omega) (by omega) dX3_balanced_150 (by decide) (fun c150 => ?_) (fun c150 => ?_)
            · refine g_aload_n (pc := 180) hX dX3_balanced_180 rfl 4 rfl ?_
              refine g_aload_n (pc := 181) hX dX3_balanced_181 rfl 4 rfl ?_
              refine g_iload_n (pc := 182) hX dX3_balanced_182 rfl 3 rfl ?_
              refine g_ci (pc := 183) hX (wc := [(m, .inr (3, [.ref (am 0), .ref (am 1), .ref (am 2), .ref (am 3), .ref (am 4), .ref (am 5), .ref (am 6), .ref (am 7), .int rd, .int wr, .int (-1)])), (am 0, .inl (K.2.1, 2, .inl po)), (am 1, .inl (K.2.1, 2, .inl ca)), (am 2, .inl (K.2.1, 2, .inl go)), (am 3, .inl (K.2.1, 8, .inl le)), (am 4, .inl (K.2.1, 160, .inl pg)), (am 5, .inl (K.2.2.1, 128, .inl mk)), (am 6, .inl (K.2.2.1, 128, .inl we)), (am 7, .inl (K.2.1, 6, .inl co))]) (wr := []) (Wd' := fun u183 => [(m, .inr (3, [.ref (am 0), .ref (am 1), .ref (am 2), .ref (am 3), .ref (am 4), .ref (am 5), .ref (am 6), .ref (am 7), .int rd, .int wr, .int (-1)])), (am 0, .inl (K.2.1, 2, .inl po)), (am 1, .inl (K.2.1, 2, .inl ca)), (am 2, .inl (K.2.1, 2, .inl go)), (am 3, .inl (K.2.1, 8, .inl u183)), (am 4, .inl (K.2.1, 160, .inl pg)), (am 5, .inl (K.2.2.1, 128, .inl mk)), (am 6, .inl (K.2.2.1, 128, .inl we)), (am 7, .inl (K.2.1, 6, .inl co))]) (g_goV (pc := 183) hX (As := [.int (nI (4 * t))]) (stk := [.ref m]) (wc := [(m, .inr (3, [.ref (am 0), .ref (am 1), .ref (am 2), .ref (am 3), .ref (am 4), .ref (am 5), .ref (am 6), .ref (am 7), .int rd, .int wr, .int (-1)])), (am 0, .inl (K.2.1, 2, .inl po)), (am 1, .inl (K.2.1, 2, .inl ca)), (am 2, .inl (K.2.1, 2, .inl go)), (am 3, .inl (K.2.1, 8, .inl le)), (am 4, .inl (K.2.1, 160, .inl pg)), (am 5, .inl (K.2.2.1, 128, .inl mk)), (am 6, .inl (K.2.2.1, 128, .inl we)), (am 7, .inl (K.2.1, 6, .inl co))]) (c_X3_cutTail l K m am po ca go le pg mk we co rd wr (-1) (rr t a b d e RO) hR (4 * t) (by omega) (by rw [rr_0]; omega)) rfl rfl rfl gX3_balanced_X3_cutTail nX3_cutTailV rfl 0 rfl ⟨(Nat.le_of_ble_eq_true rfl), (Nat.le_of_ble_eq_true rfl)⟩ [0, 1, 2, 3, 4, 5, 6, 7, 8] rfl rfl rfl (Nat.le_of_ble_eq_true rfl) dX3_balanced_183 ⟨(Nat.le_of_ble_eq_true rfl), (Nat.le_of_ble_eq_true rfl)⟩) [0, 1, 2, 3, 4, 5, 6, 7, 8] [] [0, 1, 2, 3, 4, 5, 6, 7, 8] rfl rfl rfl (by decide) rfl (fun _ => rfl) (fun r u183 h183 => ?_)
              obtain ⟨rfl, hR183⟩ := h183
              refine g_top (y := (nI (lastD a))) (by rw [rr_0]) ?_
              rw [rr_0, rr_u0] at hR183
              have hv183 := (rr_l0 hR ht).2.2.1.last
              have hd183 := dl_len a
              refine g_put (pc := 186) (C := RX3) (T := TX3) (N := 11) (ci := 3) (v := .int (nI (lastD a))) (ws' := [(m, .inr (3, [.ref (am 0), .ref (am 1), .ref (am 2), .ref (am 3), .ref (am 4), .ref (am 5), .ref (am 6), .ref (am 7), .int rd, .int wr, .int (nI (lastD a))])), (am 0, .inl (K.2.1, 2, .inl po)), (am 1, .inl (K.2.1, 2, .inl ca)), (am 2, .inl (K.2.1, 2, .inl go)), (am 3, .inl (K.2.1, 8, .inl u183)), (am 4, .inl (K.2.1, 160, .inl pg)), (am 5, .inl (K.2.2.1, 128, .inl mk)), (am 6, .inl (K.2.2.1, 128, .inl we)), (am 7, .inl (K.2.1, 6, .inl co))]) hX inX3_balanced_X3 tyX3 tyX3_ok nmX3 0 rfl rfl 10 (by decide) flX3_balanced_65 rfl rfl rfl rfl (Nat.le_of_ble_eq_true rfl) rfl dX3_balanced_186 ?_
              refine g_goto (pc := 189) (tgt := 243) hX dX3_balanced_189 (by decide) ?_
              refine g_aload_n (pc := 243) hX dX3_balanced_243 rfl 4 rfl ?_
              refine g_iload_n (pc := 244) hX dX3_balanced_244 rfl 3 rfl ?_
              refine g_iload_n (pc := 245) hX dX3_balanced_245 rfl 6 rfl ?_
              refine g_cv (pc := 246) hX (wc := [(m, .inr (3, [.ref (am 0), .ref (am 1), .ref (am 2), .ref (am 3), .ref (am 4), .ref (am 5), .ref (am 6), .ref (am 7), .int rd, .int wr, .int (nI (lastD a))])), (am 0, .inl (K.2.1, 2, .inl po)), (am 1, .inl (K.2.1, 2, .inl ca)), (am 2, .inl (K.2.1, 2, .inl go)), (am 3, .inl (K.2.1, 8, .inl u183)), (am 4, .inl (K.2.1, 160, .inl pg)), (am 5, .inl (K.2.2.1, 128, .inl mk)), (am 6, .inl (K.2.2.1, 128, .inl we)), (am 7, .inl (K.2.1, 6, .inl co))]) (wr := []) (Wd' := fun u246 => [(m, .inr (3, [.ref (am 0), .ref (am 1), .ref (am 2), .ref (am 3), .ref (am 4), .ref (am 5), .ref (am 6), .ref (am 7), .int rd, .int wr, .int (nI (lastD a))])), (am 0, .inl (K.2.1, 2, .inl po)), (am 1, .inl (K.2.1, 2, .inl ca)), (am 2, .inl (K.2.1, 2, .inl go)), (am 3, .inl (K.2.1, 8, .inl u246.1)), (am 4, .inl (K.2.1, 160, .inl u246.2)), (am 5, .inl (K.2.2.1, 128, .inl mk)), (am 6, .inl (K.2.2.1, 128, .inl we)), (am 7, .inl (K.2.1, 6, .inl co))]) (g_goV (pc := 246) hX (As := [.int (nI (4 * t)), .int (nI x)]) (stk := []) (wc := [(m, .inr (3, [.ref (am 0), .ref (am 1), .ref (am 2), .ref (am 3), .ref (am 4), .ref (am 5), .ref (am 6), .ref (am 7), .int rd, .int wr, .int (nI (lastD a))])), (am 0, .inl (K.2.1, 2, .inl po)), (am 1, .inl (K.2.1, 2, .inl ca)), (am 2, .inl (K.2.1, 2, .inl go)), (am 3, .inl (K.2.1, 8, .inl u183)), (am 4, .inl (K.2.1, 160, .inl pg)), (am 5, .inl (K.2.2.1, 128, .inl mk)), (am 6, .inl (K.2.2.1, 128, .inl we)), (am 7, .inl (K.2.1, 6, .inl co))]) (c_X3_toHead l K m am po ca go u183 pg mk we co rd wr (nI (lastD a)) (rr t a.dropLast b d e RO) hR183 (4 * t) (by omega) x hx (by rw [rr_0]; show a.dropLast.length + 1 ≤ 20; omega)) rfl rfl rfl gX3_balanced_X3_toHead nX3_toHeadV rfl 0 rfl ⟨(Nat.le_of_ble_eq_true rfl), (Nat.le_of_ble_eq_true rfl)⟩ [0, 1, 2, 3, 4, 5, 6, 7, 8] rfl rfl rfl (Nat.le_of_ble_eq_true rfl) dX3_balanced_246 ⟨(Nat.le_of_ble_eq_true rfl), (Nat.le_of_ble_eq_true rfl)⟩) [0, 1, 2, 3, 4, 5, 6, 7, 8] [] [0, 1, 2, 3, 4, 5, 6, 7, 8] rfl rfl rfl (by decide) rfl (fun _ => rfl) (fun u246 h246 => ?_)
              have hR246 := h246
              rw [rr_0, rr_u0] at hR246
              refine g_iconst (pc := 249) (v := (nI 0)) hX dX3_balanced_249 (by decide) ?_
              refine g_top (y := bI false) (by decide) ?_
              refine g_ws (ws' := [(m, .inr (3, [.ref (am 0), .ref (am 1), .ref (am 2), .ref (am 3), .ref (am 4), .ref (am 5), .ref (am 6), .ref (am 7), .int rd, .int wr, .int (nI (lastD a))])), (am 0, .inl (K.2.1, 2, .inl po)), (am 1, .inl (K.2.1, 2, .inl ca)), (am 2, .inl (K.2.1, 2, .inl (upd go t (nI g)))), (am 3, .inl (K.2.1, 8, .inl u246.1)), (am 4, .inl (K.2.1, 160, .inl u246.2)), (am 5, .inl (K.2.2.1, 128, .inl mk)), (am 6, .inl (K.2.2.1, 128, .inl we)), (am 7, .inl (K.2.1, 6, .inl co))]) (by rw [upd_same hgo]) ?_
              rw [show sBal c g a b d e x = (some (lastD a), g, x :: a.dropLast, b, d, e) from by unfold sBal sNew; rw [if_neg hm0, if_neg hm1, if_neg hm2, if_neg hm3, if_pos c139, if_pos (by omega)]] at hs
              cases hs
              exact hret (v := false) (u := (u246.1, u246.2, (nI (lastD a)))) dX3_balanced_250 (⟨by unfold sHolds; rw [if_neg (by decide), decide_eq_false hm0, decide_eq_false (p := x ∈ b) hm1]; rfl, hR246, rfl⟩) rfl
            · have hf : a.length + b.length = c := hful (by omega)
              refine g_aload_n (pc := 153) hX dX3_balanced_153 rfl 4 rfl ?_
              refine g_get (pc := 154) (C := RX3) (T := TX3) (N := 11) (ci := 3) (v := .ref (am 3)) hX inX3_balanced_X3 0 rfl rfl 3 (by decide) flX3_balanced_19 rfl rfl dX3_balanced_154 ?_
              refine g_iload_n (pc := 157) hX dX3_balanced_157 rfl 3 rfl ?_
              refine g_iconst (pc := 158) (v := (nI 2)) hX dX3_balanced_158 (by decide) ?_
              refine g_iaddN (pc := 159) (r := (4 * t) + 2) hX dX3_balanced_159 (by first | rfl | omega) ?_
              refine g_aload_n (pc := 160) hX dX3_balanced_160 rfl 4 rfl ?_
              refine g_get (pc := 161) (C := RX3) (T := TX3) (N := 11) (ci := 3) (v := .ref (am 3)) hX inX3_balanced_X3 0 rfl rfl 3 (by decide) flX3_balanced_19 rfl rfl dX3_balanced_161 ?_
              refine g_iload_n (pc := 164) hX dX3_balanced_164 rfl 3 rfl ?_
              refine g_iconst (pc := 165) (v := (nI 2)) hX dX3_balanced_165 (by decide) ?_
              refine g_iaddN (pc := 166) (r := (4 * t) + 2) hX dX3_balanced_166 (by first | rfl | omega) ?_
              refine g_iald (pc := 167) (v := (nI d.length)) hX 4 rfl (by omega) (by omega) (rr_l2 hR ht).1 dX3_balanced_167 ?_
              refine g_iconst (pc := 168) (v := (nI 1)) hX dX3_balanced_168 (by decide) ?_
              refine g_isubN (pc := 169) (r := d.length - 1) hX dX3_balanced_169 (by omega) ?_
              refine g_iast (pc := 170) (ws' := [(m, .inr (3, [.ref (am 0), .ref (am 1), .ref (am 2), .ref (am 3), .ref (am 4), .ref (am 5), .ref (am 6), .ref (am 7), .int rd, .int wr, .int (-1)])), (am 0, .inl (K.2.1, 2, .inl po)), (am 1, .inl (K.2.1, 2, .inl ca)), (am 2, .inl (K.2.1, 2, .inl go)), (am 3, .inl (K.2.1, 8, .inl (upd le ((4 * t) + 2) (nI (d.length - 1))))), (am 4, .inl (K.2.1, 160, .inl pg)), (am 5, .inl (K.2.2.1, 128, .inl mk)), (am 6, .inl (K.2.2.1, 128, .inl we)), (am 7, .inl (K.2.1, 6, .inl co))]) hX 4 rfl (by omega) (by omega) rfl dX3_balanced_170 ?_
              have hR171 := rowsR.cut hR (w := 4 * t + 2) (by omega)
              rw [rr_2, rr_u2] at hR171
              have hd171 := dl_len d
              refine g_aload_n (pc := 171) hX dX3_balanced_171 rfl 4 rfl ?_
              refine g_iload_n (pc := 172) hX dX3_balanced_172 rfl 5 rfl ?_
              refine g_iconst (pc := 173) (v := (nI 0)) hX dX3_balanced_173 (by decide) ?_
              refine g_top (y := (bI false)) (by decide) ?_
              refine g_cv (pc := 174) hX (wc := [(m, .inr (3, [.ref (am 0), .ref (am 1), .ref (am 2), .ref (am 3), .ref (am 4), .ref (am 5), .ref (am 6), .ref (am 7), .int rd, .int wr, .int (-1)])), (am 0, .inl (K.2.1, 2, .inl po)), (am 1, .inl (K.2.1, 2, .inl ca)), (am 2, .inl (K.2.1, 2, .inl go)), (am 3, .inl (K.2.1, 8, .inl (upd le ((4 * t) + 2) (nI (d.length - 1))))), (am 4, .inl (K.2.1, 160, .inl pg)), (am 5, .inl (K.2.2.1, 128, .inl mk)), (am 6, .inl (K.2.2.1, 128, .inl we)), (am 7, .inl (K.2.1, 6, .inl co))]) (wr := []) (Wd' := fun u174 => [(m, .inr (3, [.ref (am 0), .ref (am 1), .ref (am 2), .ref (am 3), .ref (am 4), .ref (am 5), .ref (am 6), .ref (am 7), .int rd, .int wr, .int u174.2.2])), (am 0, .inl (K.2.1, 2, .inl po)), (am 1, .inl (K.2.1, 2, .inl ca)), (am 2, .inl (K.2.1, 2, .inl go)), (am 3, .inl (K.2.1, 8, .inl u174.1)), (am 4, .inl (K.2.1, 160, .inl u174.2.1)), (am 5, .inl (K.2.2.1, 128, .inl mk)), (am 6, .inl (K.2.2.1, 128, .inl we)), (am 7, .inl (K.2.1, 6, .inl co))]) (g_goV (pc := 174) hX (As := [.int (nI t), .int (bI false)]) (stk := []) (wc := [(m, .inr (3, [.ref (am 0), .ref (am 1), .ref (am 2), .ref (am 3), .ref (am 4), .ref (am 5), .ref (am 6), .ref (am 7), .int rd, .int wr, .int (-1)])), (am 0, .inl (K.2.1, 2, .inl po)), (am 1, .inl (K.2.1, 2, .inl ca)), (am 2, .inl (K.2.1, 2, .inl go)), (am 3, .inl (K.2.1, 8, .inl (upd le ((4 * t) + 2) (nI (d.length - 1))))), (am 4, .inl (K.2.1, 160, .inl pg)), (am 5, .inl (K.2.2.1, 128, .inl mk)), (am 6, .inl (K.2.2.1, 128, .inl we)), (am 7, .inl (K.2.1, 6, .inl co))]) (c_X3_putOut l K m am po ca go (upd le ((4 * t) + 2) (nI (d.length - 1))) pg mk we co rd wr (-1) t ht c g a b d.dropLast e RO hR171 hca hgo (by omega) false (pBal_b (d2 := d) hB hg hf (Or.inl (by omega))) (by omega) (by omega)) rfl rfl rfl gX3_balanced_X3_putOut nX3_putOutV rfl 0 rfl ⟨(Nat.le_of_ble_eq_true rfl), (Nat.le_of_ble_eq_true rfl)⟩ [0, 1, 2, 3, 4, 5, 6, 7, 8] rfl rfl rfl (Nat.le_of_ble_eq_true rfl) dX3_balanced_174 ⟨(Nat.le_of_ble_eq_true rfl), (Nat.le_of_ble_eq_true rfl)⟩) [0, 1, 2, 3, 4, 5, 6, 7, 8] [] [0, 1, 2, 3, 4, 5, 6, 7, 8] rfl rfl rfl (by decide) rfl (fun _ => rfl) (fun u174 h174 => ?_)
              obtain ⟨hR174, hvi⟩ := h174
              have hob := sOut_b g false a b d.dropLast e
              have hoa := sOut_a g false a b d.dropLast e
              refine g_goto (pc := 177) (tgt := 243) hX dX3_balanced_177 (by decide) ?_
              refine g_aload_n (pc := 243) hX dX3_balanced_243 rfl 4 rfl ?_
              refine g_iload_n (pc := 244) hX dX3_balanced_244 rfl 3 rfl ?_
              refine g_iload_n (pc := 245) hX dX3_balanced_245 rfl 6 rfl ?_
              refine g_cv (pc := 246) hX (wc := [(m, .inr (3, [.ref (am 0), .ref (am 1), .ref (am 2), .ref (am 3), .ref (am 4), .ref (am 5), .ref (am 6), .ref (am 7), .int rd, .int wr, .int u174.2.2])), (am 0, .inl (K.2.1, 2, .inl po)), (am 1, .inl (K.2.1, 2, .inl ca)), (am 2, .inl (K.2.1, 2, .inl go)), (am 3, .inl (K.2.1, 8, .inl u174.1)), (am 4, .inl (K.2.1, 160, .inl u174.2.1)), (am 5, .inl (K.2.2.1, 128, .inl mk)), (am 6, .inl (K.2.2.1, 128, .inl we)), (am 7, .inl (K.2.1, 6, .inl co))]) (wr := []) (Wd' := fun u246 => [(m, .inr (3, [.ref (am 0), .ref (am 1), .ref (am 2), .ref (am 3), .ref (am 4), .ref (am 5), .ref (am 6), .ref (am 7), .int rd, .int wr, .int u174.2.2])), (am 0, .inl (K.2.1, 2, .inl po)), (am 1, .inl (K.2.1, 2, .inl ca)), (am 2, .inl (K.2.1, 2, .inl go)), (am 3, .inl (K.2.1, 8, .inl u246.1)), (am 4, .inl (K.2.1, 160, .inl u246.2)), (am 5, .inl (K.2.2.1, 128, .inl mk)), (am 6, .inl (K.2.2.1, 128, .inl we)), (am 7, .inl (K.2.1, 6, .inl co))]) (g_goV (pc := 246) hX (As := [.int (nI (4 * t)), .int (nI x)]) (stk := []) (wc := [(m, .inr (3, [.ref (am 0), .ref (am 1), .ref (am 2), .ref (am 3), .ref (am 4), .ref (am 5), .ref (am 6), .ref (am 7), .int rd, .int wr, .int u174.2.2])), (am 0, .inl (K.2.1, 2, .inl po)), (am 1, .inl (K.2.1, 2, .inl ca)), (am 2, .inl (K.2.1, 2, .inl go)), (am 3, .inl (K.2.1, 8, .inl u174.1)), (am 4, .inl (K.2.1, 160, .inl u174.2.1)), (am 5, .inl (K.2.2.1, 128, .inl mk)), (am 6, .inl (K.2.2.1, 128, .inl we)), (am 7, .inl (K.2.1, 6, .inl co))]) (c_X3_toHead l K m am po ca go u174.1 u174.2.1 mk we co rd wr u174.2.2 (rr t ((sOut g false a b d.dropLast e).2.1) ((sOut g false a b d.dropLast e).2.2.1) ((sOut g false a b d.dropLast e).2.2.2.1) ((sOut g false a b d.dropLast e).2.2.2.2) RO) hR174 (4 * t) (by omega) x hx (by rw [rr_0]; show ((sOut g false a b d.dropLast e).2.1).length + 1 ≤ 20; omega)) rfl rfl rfl gX3_balanced_X3_toHead nX3_toHeadV rfl 0 rfl ⟨(Nat.le_of_ble_eq_true rfl), (Nat.le_of_ble_eq_true rfl)⟩ [0, 1, 2, 3, 4, 5, 6, 7, 8] rfl rfl rfl (Nat.le_of_ble_eq_true rfl) dX3_balanced_246 ⟨(Nat.le_of_ble_eq_true rfl), (Nat.le_of_ble_eq_true rfl)⟩) [0, 1, 2, 3, 4, 5, 6, 7, 8] [] [0, 1, 2, 3, 4, 5, 6, 7, 8] rfl rfl rfl (by decide) rfl (fun _ => rfl) (fun u246 h246 => ?_)
              have hR246 := h246
              rw [rr_0, rr_u0] at hR246
              refine g_iconst (pc := 249) (v := (nI 0)) hX dX3_balanced_249 (by decide) ?_
              refine g_top (y := bI false) (by decide) ?_
              refine g_ws (ws' := [(m, .inr (3, [.ref (am 0), .ref (am 1), .ref (am 2), .ref (am 3), .ref (am 4), .ref (am 5), .ref (am 6), .ref (am 7), .int rd, .int wr, .int u174.2.2])), (am 0, .inl (K.2.1, 2, .inl po)), (am 1, .inl (K.2.1, 2, .inl ca)), (am 2, .inl (K.2.1, 2, .inl (upd go t (nI g)))), (am 3, .inl (K.2.1, 8, .inl u246.1)), (am 4, .inl (K.2.1, 160, .inl u246.2)), (am 5, .inl (K.2.2.1, 128, .inl mk)), (am 6, .inl (K.2.2.1, 128, .inl we)), (am 7, .inl (K.2.1, 6, .inl co))]) (by rw [upd_same hgo]) ?_
              rw [show sBal c g a b d e x = (some (sOut g false a b d.dropLast e).1, g, x :: (sOut g false a b d.dropLast e).2.1, (sOut g false a b d.dropLast e).2.2.1, (sOut g false a b d.dropLast e).2.2.2.1, (sOut g false a b d.dropLast e).2.2.2.2) from by unfold sBal sNew; rw [if_neg hm0, if_neg hm1, if_neg hm2, if_neg hm3, if_pos c139, if_neg (by omega)]] at hs
              cases hs
              exact hret (v := false) (u := (u246.1, u246.2, u174.2.2)) dX3_balanced_250 (⟨by unfold sHolds; rw [if_neg (by decide), decide_eq_false hm0, decide_eq_false (p := x ∈ b) hm1]; rfl, hR246, hvi⟩) rfl
        · have hm3 : x ∈ e := of_decide_eq_true c77
          have hm3l := rm_len hm3
          refine g_aload_n (pc := 80) hX dX3_balanced_80 rfl 2 rfl ?_
          refine g_iload_n (pc := 81) hX dX3_balanced_81 rfl 3 rfl ?_
          refine g_iload_n (pc := 82) hX dX3_balanced_82 rfl 4 rfl ?_
          refine g_aload_n (pc := 83) hX dX3_balanced_83 rfl 2 rfl ?_
          refine g_iload_n (pc := 84) hX dX3_balanced_84 rfl 1 rfl ?_
          refine g_iconst (pc := 85) (v := (nI 2)) hX dX3_balanced_85 (by decide) ?_
          refine g_iaddN (pc := 86) (r := (4 * t) + 2) hX dX3_balanced_86 (by first | rfl | omega) ?_
          refine g_iload_n (pc := 87) hX dX3_balanced_87 rfl 4 rfl ?_
          refine g_ci (pc := 88) hX (wc := [(m, .inr (3, [.ref (am 0), .ref (am 1), .ref (am 2), .ref (am 3), .ref (am 4), .ref (am 5), .ref (am 6), .ref (am 7), .int rd, .int wr, .int (-1)])), (am 0, .inl (K.2.1, 2, .inl po)), (am 1, .inl (K.2.1, 2, .inl ca)), (am 2, .inl (K.2.1, 2, .inl go)), (am 3, .inl (K.2.1, 8, .inl le)), (am 4, .inl (K.2.1, 160, .inl pg)), (am 5, .inl (K.2.2.1, 128, .inl mk)), (am 6, .inl (K.2.2.1, 128, .inl we)), (am 7, .inl (K.2.1, 6, .inl co))]) (wr := []) (Wd' := fun u => [(m, .inr (3, [.ref (am 0), .ref (am 1), .ref (am 2), .ref (am 3), .ref (am 4), .ref (am 5), .ref (am 6), .ref (am 7), .int rd, .int wr, .int (-1)])), (am 0, .inl (K.2.1, 2, .inl po)), (am 1, .inl (K.2.1, 2, .inl ca)), (am 2, .inl (K.2.1, 2, .inl go)), (am 3, .inl (K.2.1, 8, .inl le)), (am 4, .inl (K.2.1, 160, .inl pg)), (am 5, .inl (K.2.2.1, 128, .inl mk)), (am 6, .inl (K.2.2.1, 128, .inl we)), (am 7, .inl (K.2.1, 6, .inl co))]) (g_goV (pc := 88) hX (As := [.int (nI ((4 * t) + 2)), .int (nI x)]) (stk := [.int (nI x), .int (nI t), .ref m]) (wc := [(m, .inr (3, [.ref (am 0), .ref (am 1), .ref (am 2), .ref (am 3), .ref (am 4), .ref (am 5), .ref (am 6), .ref (am 7), .int rd, .int wr, .int (-1)])), (am 0, .inl (K.2.1, 2, .inl po)), (am 1, .inl (K.2.1, 2, .inl ca)), (am 2, .inl (K.2.1, 2, .inl go)), (am 3, .inl (K.2.1, 8, .inl le)), (am 4, .inl (K.2.1, 160, .inl pg)), (am 5, .inl (K.2.2.1, 128, .inl mk)), (am 6, .inl (K.2.2.1, 128, .inl we)), (am 7, .inl (K.2.1, 6, .inl co))]) (c_X3_isIn l K m am po ca go le pg mk we co rd wr (-1) (rr t a b d e RO) hR ((4 * t) + 2) (by omega) x hx) rfl rfl rfl gX3_balanced_X3_isIn nX3_isInV rfl 0 rfl ⟨(Nat.le_of_ble_eq_true rfl), (Nat.le_of_ble_eq_true rfl)⟩ [0, 1, 2, 3, 4, 5, 6, 7, 8] rfl rfl rfl (Nat.le_of_ble_eq_true rfl) dX3_balanced_88 ⟨(Nat.le_of_ble_eq_true rfl), (Nat.le_of_ble_eq_true rfl)⟩) [0, 1, 2, 3, 4, 5, 6, 7, 8] [] [0, 1, 2, 3, 4, 5, 6, 7, 8] rfl rfl rfl (by decide) rfl (fun _ => rfl) (fun r u h88 => ?_)
          obtain rfl := h88
          refine g_top (y := (bI (decide (x ∈ d)))) (by rw [rr_2]) ?_
          refine g_top (y := (bI false)) (by rw [decide_eq_false hm2]) ?_
          have hf : a.length + b.length = c := hful (by have := ix_lt hm3; omega)
          have hg2 : (g - sStep d.length e.length) ≤ c := by omega
          have hb2 : sFirst (g - sStep d.length e.length) true a = false → 0 < b.length := pBal_b (d2 := d) hB hg2 hf (Or.inr rfl)
          refine g_cv (pc := 91) hX (wc := [(m, .inr (3, [.ref (am 0), .ref (am 1), .ref (am 2), .ref (am 3), .ref (am 4), .ref (am 5), .ref (am 6), .ref (am 7), .int rd, .int wr, .int (-1)])), (am 0, .inl (K.2.1, 2, .inl po)), (am 1, .inl (K.2.1, 2, .inl ca)), (am 2, .inl (K.2.1, 2, .inl go)), (am 3, .inl (K.2.1, 8, .inl le)), (am 4, .inl (K.2.1, 160, .inl pg)), (am 5, .inl (K.2.2.1, 128, .inl mk)), (am 6, .inl (K.2.2.1, 128, .inl we)), (am 7, .inl (K.2.1, 6, .inl co))]) (wr := []) (Wd' := fun u91 => [(m, .inr (3, [.ref (am 0), .ref (am 1), .ref (am 2), .ref (am 3), .ref (am 4), .ref (am 5), .ref (am 6), .ref (am 7), .int rd, .int wr, .int u91.2.2])), (am 0, .inl (K.2.1, 2, .inl po)), (am 1, .inl (K.2.1, 2, .inl ca)), (am 2, .inl (K.2.1, 2, .inl (upd go t (nI (g - sStep d.length e.length))))), (am 3, .inl (K.2.1, 8, .inl u91.1)), (am 4, .inl (K.2.1, 160, .inl u91.2.1)), (am 5, .inl (K.2.2.1, 128, .inl mk)), (am 6, .inl (K.2.2.1, 128, .inl we)), (am 7, .inl (K.2.1, 6, .inl co))]) (g_goV (pc := 91) hX (As := [.int (nI t), .int (nI x), .int (bI false)]) (stk := []) (wc := [(m, .inr (3, [.ref (am 0), .ref (am 1), .ref (am 2), .ref (am 3), .ref (am 4), .ref (am 5), .ref (am 6), .ref (am 7), .int rd, .int wr, .int (-1)])), (am 0, .inl (K.2.1, 2, .inl po)), (am 1, .inl (K.2.1, 2, .inl ca)), (am 2, .inl (K.2.1, 2, .inl go)), (am 3, .inl (K.2.1, 8, .inl le)), (am 4, .inl (K.2.1, 160, .inl pg)), (am 5, .inl (K.2.2.1, 128, .inl mk)), (am 6, .inl (K.2.2.1, 128, .inl we)), (am 7, .inl (K.2.1, 6, .inl co))]) (c_X3_back_false l K m am po ca go le pg mk we co rd wr (-1) t ht c g a b d e RO hR hca hgo hc2 (by omega) hb2 (by omega) (by omega) (by omega) x hx hm3) rfl rfl rfl gX3_balanced_X3_back nX3_backV rfl 0 rfl ⟨(Nat.le_of_ble_eq_true rfl), (Nat.le_of_ble_eq_true rfl)⟩ [0, 1, 2, 3, 4, 5, 6, 7, 8] rfl rfl rfl (Nat.le_of_ble_eq_true rfl) dX3_balanced_91 ⟨(Nat.le_of_ble_eq_true rfl), (Nat.le_of_ble_eq_true rfl)⟩) [0, 1, 2, 3, 4, 5, 6, 7, 8] [] [0, 1, 2, 3, 4, 5, 6, 7, 8] rfl rfl rfl (by decide) rfl (fun _ => rfl) (fun u91 h91 => ?_)
          obtain ⟨hR91, hvi⟩ := h91
          refine g_iconst (pc := 94) (v := (nI 0)) hX dX3_balanced_94 (by decide) ?_
          refine g_top (y := bI false) (by decide) ?_
          rw [show sBal c g a b d e x = (some (sBack (g - sStep d.length e.length) true a b d e x).1, (g - sStep d.length e.length), (sBack (g - sStep d.length e.length) true a b d e x).2.1, (sBack (g - sStep d.length e.length) true a b d e x).2.2.1, (sBack (g - sStep d.length e.length) true a b d e x).2.2.2.1, (sBack (g - sStep d.length e.length) true a b d e x).2.2.2.2) from by unfold sBal; rw [if_neg hm0, if_neg hm1, if_neg hm2, if_pos hm3]] at hs
          cases hs
          exact hret (v := false) (u := (u91.1, u91.2.1, u91.2.2)) dX3_balanced_95 (⟨by unfold sHolds; rw [if_neg (by decide), decide_eq_false hm0, decide_eq_false (p := x ∈ b) hm1]; rfl, hR91, hvi⟩) rfl
    · have hm1 : x ∈ b := of_decide_eq_true c29
      have hm1l := rm_len hm1
      refine g_aload_n (pc := 32) hX dX3_balanced_32 rfl 2 rfl ?_
      refine g_aload_n (pc := 33) hX dX3_balanced_33 rfl 2 rfl ?_
      refine g_iload_n (pc := 34) hX dX3_balanced_34 rfl 1 rfl ?_
      refine g_iload_n (pc := 35) hX dX3_balanced_35 rfl 4 rfl ?_
      refine g_ci (pc := 36) hX (wc := [(m, .inr (3, [.ref (am 0), .ref (am 1), .ref (am 2), .ref (am 3), .ref (am 4), .ref (am 5), .ref (am 6), .ref (am 7), .int rd, .int wr, .int (-1)])), (am 0, .inl (K.2.1, 2, .inl po)), (am 1, .inl (K.2.1, 2, .inl ca)), (am 2, .inl (K.2.1, 2, .inl go)), (am 3, .inl (K.2.1, 8, .inl le)), (am 4, .inl (K.2.1, 160, .inl pg)), (am 5, .inl (K.2.2.1, 128, .inl mk)), (am 6, .inl (K.2.2.1, 128, .inl we)), (am 7, .inl (K.2.1, 6, .inl co))]) (wr := []) (Wd' := fun u => [(m, .inr (3, [.ref (am 0), .ref (am 1), .ref (am 2), .ref (am 3), .ref (am 4), .ref (am 5), .ref (am 6), .ref (am 7), .int rd, .int wr, .int (-1)])), (am 0, .inl (K.2.1, 2, .inl po)), (am 1, .inl (K.2.1, 2, .inl ca)), (am 2, .inl (K.2.1, 2, .inl go)), (am 3, .inl (K.2.1, 8, .inl le)), (am 4, .inl (K.2.1, 160, .inl pg)), (am 5, .inl (K.2.2.1, 128, .inl mk)), (am 6, .inl (K.2.2.1, 128, .inl we)), (am 7, .inl (K.2.1, 6, .inl co))]) (g_goV (pc := 36) hX (As := [.int (nI (4 * t)), .int (nI x)]) (stk := [.ref m]) (wc := [(m, .inr (3, [.ref (am 0), .ref (am 1), .ref (am 2), .ref (am 3), .ref (am 4), .ref (am 5), .ref (am 6), .ref (am 7), .int rd, .int wr, .int (-1)])), (am 0, .inl (K.2.1, 2, .inl po)), (am 1, .inl (K.2.1, 2, .inl ca)), (am 2, .inl (K.2.1, 2, .inl go)), (am 3, .inl (K.2.1, 8, .inl le)), (am 4, .inl (K.2.1, 160, .inl pg)), (am 5, .inl (K.2.2.1, 128, .inl mk)), (am 6, .inl (K.2.2.1, 128, .inl we)), (am 7, .inl (K.2.1, 6, .inl co))]) (c_X3_isIn l K m am po ca go le pg mk we co rd wr (-1) (rr t a b d e RO) hR (4 * t) (by omega) x hx) rfl rfl rfl gX3_balanced_X3_isIn nX3_isInV rfl 0 rfl ⟨(Nat.le_of_ble_eq_true rfl), (Nat.le_of_ble_eq_true rfl)⟩ [0, 1, 2, 3, 4, 5, 6, 7, 8] rfl rfl rfl (Nat.le_of_ble_eq_true rfl) dX3_balanced_36 ⟨(Nat.le_of_ble_eq_true rfl), (Nat.le_of_ble_eq_true rfl)⟩) [0, 1, 2, 3, 4, 5, 6, 7, 8] [] [0, 1, 2, 3, 4, 5, 6, 7, 8] rfl rfl rfl (by decide) rfl (fun _ => rfl) (fun r u h36 => ?_)
      obtain rfl := h36
      refine g_top (y := (bI (decide (x ∈ a)))) (by rw [rr_0]) ?_
      refine g_ifB_eq (pc := 39) (tgt := 46) hX dX3_balanced_39 (by decide) (fun c39 => ?_) (fun c39 => absurd c39 (by rw [decide_eq_false hm0]; decide))
      refine g_iload_n (pc := 46) hX dX3_balanced_46 rfl 1 rfl ?_
      refine g_iconst (pc := 47) (v := (nI 1)) hX dX3_balanced_47 (by decide) ?_
      refine g_iaddN (pc := 48) (r := (4 * t) + 1) hX dX3_balanced_48 (by first | rfl | omega) ?_
      refine g_iload_n (pc := 49) hX dX3_balanced_49 rfl 1 rfl ?_
      refine g_iconst (pc := 50) (v := (nI 1)) hX dX3_balanced_50 (by decide) ?_
      refine g_iaddN (pc := 51) (r := (4 * t) + 1) hX dX3_balanced_51 (by first | rfl | omega) ?_
      refine g_iload_n (pc := 52) hX dX3_balanced_52 rfl 4 rfl ?_
      refine g_cv (pc := 53) hX (wc := [(m, .inr (3, [.ref (am 0), .ref (am 1), .ref (am 2), .ref (am 3), .ref (am 4), .ref (am 5), .ref (am 6), .ref (am 7), .int rd, .int wr, .int (-1)])), (am 0, .inl (K.2.1, 2, .inl po)), (am 1, .inl (K.2.1, 2, .inl ca)), (am 2, .inl (K.2.1, 2, .inl go)), (am 3, .inl (K.2.1, 8, .inl le)), (am 4, .inl (K.2.1, 160, .inl pg)), (am 5, .inl (K.2.2.1, 128, .inl mk)), (am 6, .inl (K.2.2.1, 128, .inl we)), (am 7, .inl (K.2.1, 6, .inl co))]) (wr := []) (Wd' := fun u53 => [(m, .inr (3, [.ref (am 0), .ref (am 1), .ref (am 2), .ref (am 3), .ref (am 4), .ref (am 5), .ref (am 6), .ref (am 7), .int rd, .int wr, .int (-1)])), (am 0, .inl (K.2.1, 2, .inl po)), (am 1, .inl (K.2.1, 2, .inl ca)), (am 2, .inl (K.2.1, 2, .inl go)), (am 3, .inl (K.2.1, 8, .inl u53.1)), (am 4, .inl (K.2.1, 160, .inl u53.2)), (am 5, .inl (K.2.2.1, 128, .inl mk)), (am 6, .inl (K.2.2.1, 128, .inl we)), (am 7, .inl (K.2.1, 6, .inl co))]) (g_goV (pc := 53) hX (As := [.int (nI ((4 * t) + 1)), .int (nI ((4 * t) + 1)), .int (nI x)]) (stk := []) (wc := [(m, .inr (3, [.ref (am 0), .ref (am 1), .ref (am 2), .ref (am 3), .ref (am 4), .ref (am 5), .ref (am 6), .ref (am 7), .int rd, .int wr, .int (-1)])), (am 0, .inl (K.2.1, 2, .inl po)), (am 1, .inl (K.2.1, 2, .inl ca)), (am 2, .inl (K.2.1, 2, .inl go)), (am 3, .inl (K.2.1, 8, .inl le)), (am 4, .inl (K.2.1, 160, .inl pg)), (am 5, .inl (K.2.2.1, 128, .inl mk)), (am 6, .inl (K.2.2.1, 128, .inl we)), (am 7, .inl (K.2.1, 6, .inl co))]) (c_X3_move l K m am po ca go le pg mk we co rd wr (-1) (rr t a b d e RO) hR ((4 * t) + 1) ((4 * t) + 1) (by omega) (by omega) x hx (by rw [rr_1]; exact hm1) (by rw [rr_1, rr_u1, rr_1]; show (rm b x).length + 1 ≤ 20; omega)) rfl rfl rfl gX3_balanced_X3_move nX3_moveV rfl 0 rfl ⟨(Nat.le_of_ble_eq_true rfl), (Nat.le_of_ble_eq_true rfl)⟩ [0, 1, 2, 3, 4, 5, 6, 7, 8] rfl rfl rfl (Nat.le_of_ble_eq_true rfl) dX3_balanced_53 ⟨(Nat.le_of_ble_eq_true rfl), (Nat.le_of_ble_eq_true rfl)⟩) [0, 1, 2, 3, 4, 5, 6, 7, 8] [] [0, 1, 2, 3, 4, 5, 6, 7, 8] rfl rfl rfl (by decide) rfl (fun _ => rfl) (fun u53 h53 => ?_)
      have hR53 := h53
      rw [rr_1, rr_u1, rr_1, rr_u1] at hR53
      refine g_iconst (pc := 56) (v := (nI 1)) hX dX3_balanced_56 (by decide) ?_
      refine g_top (y := bI true) (by decide) ?_
      refine g_ws (ws' := [(m, .inr (3, [.ref (am 0), .ref (am 1), .ref (am 2), .ref (am 3), .ref (am 4), .ref (am 5), .ref (am 6), .ref (am 7), .int rd, .int wr, .int (-1)])), (am 0, .inl (K.2.1, 2, .inl po)), (am 1, .inl (K.2.1, 2, .inl ca)), (am 2, .inl (K.2.1, 2, .inl (upd go t (nI g)))), (am 3, .inl (K.2.1, 8, .inl u53.1)), (am 4, .inl (K.2.1, 160, .inl u53.2)), (am 5, .inl (K.2.2.1, 128, .inl mk)), (am 6, .inl (K.2.2.1, 128, .inl we)), (am 7, .inl (K.2.1, 6, .inl co))]) (by rw [upd_same hgo]) ?_
      rw [show sBal c g a b d e x = (none, g, a, x :: rm b x, d, e) from by unfold sBal; rw [if_neg hm0, if_pos hm1]] at hs
      cases hs
      exact hret (v := true) (u := (u53.1, u53.2, (-1))) dX3_balanced_57 (⟨by unfold sHolds; rw [if_neg (by decide), decide_eq_true (p := x ∈ b) hm1, Bool.or_true], hR53, rfl⟩) rfl
