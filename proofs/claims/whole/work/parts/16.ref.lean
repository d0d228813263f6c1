/-! THE REFERENCE: its contracts, rows first. mW: the object m with its arrays am 0 .. 7 -/
abbrev mW (K : gT) (m : Nat) (am : Nat → Nat) (po ca go le pg mk we co : Nat → Int32) (rd wr vi : Int32) : va_W := [(m, .inr (3, [.ref (am 0), .ref (am 1), .ref (am 2), .ref (am 3), .ref (am 4), .ref (am 5), .ref (am 6), .ref (am 7), .int rd, .int wr, .int vi])), (am 0, .inl (K.2.1, 2, .inl po)), (am 1, .inl (K.2.1, 2, .inl ca)), (am 2, .inl (K.2.1, 2, .inl go)), (am 3, .inl (K.2.1, 8, .inl le)), (am 4, .inl (K.2.1, 160, .inl pg)), (am 5, .inl (K.2.2.1, 128, .inl mk)), (am 6, .inl (K.2.2.1, 128, .inl we)), (am 7, .inl (K.2.1, 6, .inl co))]
abbrev rmX3_placeIn : Room := { frames := 0, cells := 0, slots := 0, locals := 0 }
theorem flX3_placeIn_19 : Cond.fieldLink RX3 19 "TwoTierCacheModel" "lengths" "[I" ∈ wsX3_placeIn := by decide +kernel
theorem inX3_placeIn_X3 : ∀ w ∈ u_ws RX3 TX3 11, w ∈ wsX3_placeIn := by decide +kernel
theorem flX3_placeIn_22 : Cond.fieldLink RX3 22 "TwoTierCacheModel" "pages" "[I" ∈ wsX3_placeIn := by decide +kernel
set_option maxHeartbeats 4000000 in
set_option maxRecDepth 100000 in
/-- placeIn -/
theorem c_X3_placeIn (l : Launch) (K : gT) (m : Nat) (am : Nat → Nat) (po ca go le pg mk we co : Nat → Int32) (rd wr vi : Int32) (RR : Nat → List Nat) (hR : rowsR le pg RR) (w : Nat) (hw : w < 8) (x : Nat) (hx : x < 64) : Ci l yX3_placeIn wsX3_placeIn rmX3_placeIn K [.ref m, .int (nI w), .int (nI x)] (mW K m am po ca go le pg mk we co rd wr vi) (fun (r : Int32) (u : Unit) => r = plI (RR w) x) (fun u => mW K m am po ca go le pg mk we co rd wr vi) 0 0 := by
  refine m_i (cc := cX3_placeIn) (own := RX3) (maxL := 4) (lv0 := [(0, .ref m), (1, .int (nI w)), (2, .int (nI x))]) (by decide) rfl rfl (Nat.le_of_ble_eq_true rfl) rfl ?_
  intro X hX hin hret
  refine g_ws (ws' := [(m, .inr (3, [.ref (am 0), .ref (am 1), .ref (am 2), .ref (am 3), .ref (am 4), .ref (am 5), .ref (am 6), .ref (am 7), .int rd, .int wr, .int vi])), (am 0, .inl (K.2.1, 2, .inl po)), (am 1, .inl (K.2.1, 2, .inl ca)), (am 2, .inl (K.2.1, 2, .inl go)), (am 3, .inl (K.2.1, 8, .inl le)), (am 4, .inl (K.2.1, 160, .inl pg)), (am 5, .inl (K.2.2.1, 128, .inl mk)), (am 6, .inl (K.2.2.1, 128, .inl we)), (am 7, .inl (K.2.1, 6, .inl co))]) rfl ?_
  obtain ⟨kl, k20, kp, kg⟩ := hR w hw
  refine g_iconst (pc := 0) (v := (nI 0)) hX dX3_placeIn_0 (by decide) ?_
  refine g_istore_n (pc := 1) (lv' := [(3, .int (nI 0)), (0, .ref m), (1, .int (nI w)), (2, .int (nI x))]) hX dX3_placeIn_1 rfl (by decide) rfl ?_
  have loop : ∀ (z i : Nat), (RR w).length - i < z → i ≤ (RR w).length → (∀ j, j < i → (RR w).getD j 0 ≠ x) → VG X l rmX3_placeIn K 4 0 0 [(m, .inr (3, [.ref (am 0), .ref (am 1), .ref (am 2), .ref (am 3), .ref (am 4), .ref (am 5), .ref (am 6), .ref (am 7), .int rd, .int wr, .int vi])), (am 0, .inl (K.2.1, 2, .inl po)), (am 1, .inl (K.2.1, 2, .inl ca)), (am 2, .inl (K.2.1, 2, .inl go)), (am 3, .inl (K.2.1, 8, .inl le)), (am 4, .inl (K.2.1, 160, .inl pg)), (am 5, .inl (K.2.2.1, 128, .inl mk)), (am 6, .inl (K.2.2.1, 128, .inl we)), (am 7, .inl (K.2.1, 6, .inl co))] [(3, .int (nI i)), (0, .ref m), (1, .int (nI w)), (2, .int (nI x))] [] 2 := by
    intro z
    induction z with
    | zero => intro i h1; exact absurd h1 (Nat.not_lt_zero _)
    | succ z ih =>
      intro i h1 h2 h3
      refine g_iload_n (pc := 2) hX dX3_placeIn_2 rfl 0 rfl ?_
      refine g_aload_n (pc := 3) hX dX3_placeIn_3 rfl 1 rfl ?_
      refine g_get (pc := 4) (C := RX3) (T := TX3) (N := 11) (ci := 3) (v := .ref (am 3)) hX inX3_placeIn_X3 0 rfl rfl 3 (by decide) flX3_placeIn_19 rfl rfl dX3_placeIn_4 ?_
      refine g_iload_n (pc := 7) hX dX3_placeIn_7 rfl 2 rfl ?_
      refine g_iald (pc := 8) (v := (nI ((RR w).length))) hX 4 rfl (by omega) (by omega) kl dX3_placeIn_8 ?_
      refine g_icmpN_ge (pc := 9) (tgt := 34) hX (by omega) (by omega) dX3_placeIn_9 (by decide) (fun c9 => ?_) (fun c9 => ?_)
      · refine g_iload_n (pc := 34) hX dX3_placeIn_34 rfl 0 rfl ?_
        refine g_aload_n (pc := 35) hX dX3_placeIn_35 rfl 1 rfl ?_
        refine g_get (pc := 36) (C := RX3) (T := TX3) (N := 11) (ci := 3) (v := .ref (am 3)) hX inX3_placeIn_X3 0 rfl rfl 3 (by decide) flX3_placeIn_19 rfl rfl dX3_placeIn_36 ?_
        refine g_iload_n (pc := 39) hX dX3_placeIn_39 rfl 2 rfl ?_
        refine g_iald (pc := 40) (v := (nI ((RR w).length))) hX 4 rfl (by omega) (by omega) kl dX3_placeIn_40 ?_
        refine g_icmpN_ge (pc := 41) (tgt := 48) hX (by omega) (by omega) dX3_placeIn_41 (by decide) (fun c41 => ?_) (fun c41 => absurd c41 (by omega))
        refine g_iconst (pc := 48) (v := (-1)) hX dX3_placeIn_48 (by decide) ?_
        exact hret (u := ()) dX3_placeIn_49 (by rw [plI_out (nomem_of (fun j hj => h3 j (by omega)))]) rfl
      · have hg := kp _ (gd_mem c9)
        refine g_aload_n (pc := 12) hX dX3_placeIn_12 rfl 1 rfl ?_
        refine g_get (pc := 13) (C := RX3) (T := TX3) (N := 11) (ci := 3) (v := .ref (am 4)) hX inX3_placeIn_X3 0 rfl rfl 4 (by decide) flX3_placeIn_22 rfl rfl dX3_placeIn_13 ?_
        refine g_bipush (pc := 16) (v := (nI 20)) hX dX3_placeIn_16 (by decide) ?_
        refine g_iload_n (pc := 18) hX dX3_placeIn_18 rfl 2 rfl ?_
        refine g_imulN (pc := 19) (r := 20 * w) hX dX3_placeIn_19 (by first | rfl | omega) ?_
        refine g_iload_n (pc := 20) hX dX3_placeIn_20 rfl 0 rfl ?_
        refine g_iaddN (pc := 21) (r := (20 * w) + i) hX dX3_placeIn_21 (by first | rfl | omega) ?_
        refine g_iald (pc := 22) (v := (nI ((RR w).getD i 0))) hX 5 rfl (by omega) (by omega) (kg i c9) dX3_placeIn_22 ?_
        refine g_iload_n (pc := 23) hX dX3_placeIn_23 rfl 3 rfl ?_
        refine g_icmpN_eq (pc := 24) (tgt := 34) hX (by omega) (by omega) dX3_placeIn_24 (by decide) (fun c24 => ?_) (fun c24 => ?_)
        · refine g_iload_n (pc := 34) hX dX3_placeIn_34 rfl 0 rfl ?_
          refine g_aload_n (pc := 35) hX dX3_placeIn_35 rfl 1 rfl ?_
          refine g_get (pc := 36) (C := RX3) (T := TX3) (N := 11) (ci := 3) (v := .ref (am 3)) hX inX3_placeIn_X3 0 rfl rfl 3 (by decide) flX3_placeIn_19 rfl rfl dX3_placeIn_36 ?_
          refine g_iload_n (pc := 39) hX dX3_placeIn_39 rfl 2 rfl ?_
          refine g_iald (pc := 40) (v := (nI ((RR w).length))) hX 4 rfl (by omega) (by omega) kl dX3_placeIn_40 ?_
          refine g_icmpN_ge (pc := 41) (tgt := 48) hX (by omega) (by omega) dX3_placeIn_41 (by decide) (fun c41 => absurd c41 (by omega)) (fun c41 => ?_)
          refine g_iload_n (pc := 44) hX dX3_placeIn_44 rfl 0 rfl ?_
          refine g_goto (pc := 45) (tgt := 49) hX dX3_placeIn_45 (by decide) ?_
          obtain ⟨hm, he⟩ := ix_of c9 c24 h3
          exact hret (u := ()) dX3_placeIn_49 (by rw [plI_in hm, he]) rfl
        · refine g_iload_n (pc := 27) hX dX3_placeIn_27 rfl 0 rfl ?_
          refine g_iconst (pc := 28) (v := (nI 1)) hX dX3_placeIn_28 (by decide) ?_
          refine g_iaddN (pc := 29) (r := i + 1) hX dX3_placeIn_29 (by first | rfl | omega) ?_
          refine g_istore_n (pc := 30) (lv' := [(3, .int (nI (i + 1))), (0, .ref m), (1, .int (nI w)), (2, .int (nI x))]) hX dX3_placeIn_30 rfl (by decide) rfl ?_
          refine g_goto (pc := 31) (tgt := 2) hX dX3_placeIn_31 (by decide) ?_
          refine g_sub [0, 1, 2, 3] (lv' := [(3, .int (nI (i + 1))), (0, .ref m), (1, .int (nI w)), (2, .int (nI x))]) rfl ?_
          exact ih (i + 1) (by omega) (by omega) (fun j hj => by
            rcases Nat.lt_or_ge j i with q | q
            · exact h3 j q
            · rw [show j = i by omega]; exact c24)
  refine g_sub [0, 1, 2, 3] (lv' := [(3, .int (nI 0)), (0, .ref m), (1, .int (nI w)), (2, .int (nI x))]) rfl ?_
  exact loop _ 0 (Nat.lt_succ_self _) (Nat.zero_le _) (fun j hj => absurd hj (Nat.not_lt_zero _))
abbrev rmX3_isIn : Room := { frames := 1, cells := 0, slots := 0, locals := 23 }
theorem nX3_placeInV : yX3_placeIn.cls = RX3 ∧ yX3_placeIn.cls ≠ "java/lang/invoke/MethodHandle" ∧ yX3_placeIn.cls ≠ "java/lang/invoke/VarHandle" ∧ (parseMethodDescriptor yX3_placeIn.desc).map (fun d => d.parameters.length) = some 2 := by decide +kernel
set_option maxHeartbeats 4000000 in
set_option maxRecDepth 100000 in
/-- isIn -/
theorem c_X3_isIn (l : Launch) (K : gT) (m : Nat) (am : Nat → Nat) (po ca go le pg mk we co : Nat → Int32) (rd wr vi : Int32) (RR : Nat → List Nat) (hR : rowsR le pg RR) (w : Nat) (hw : w < 8) (x : Nat) (hx : x < 64) : Ci l yX3_isIn wsX3_isIn rmX3_isIn K [.ref m, .int (nI w), .int (nI x)] (mW K m am po ca go le pg mk we co rd wr vi) (fun (r : Int32) (u : Unit) => r = bI (decide (x ∈ RR w))) (fun u => mW K m am po ca go le pg mk we co rd wr vi) 0 0 := by
  refine m_z (cc := cX3_isIn) (own := RX3) (maxL := 3) (lv0 := [(0, .ref m), (1, .int (nI w)), (2, .int (nI x))]) (by decide) rfl rfl (Nat.le_of_ble_eq_true rfl) rfl ?_
  intro X hX hin hret
  refine g_ws (ws' := [(m, .inr (3, [.ref (am 0), .ref (am 1), .ref (am 2), .ref (am 3), .ref (am 4), .ref (am 5), .ref (am 6), .ref (am 7), .int rd, .int wr, .int vi])), (am 0, .inl (K.2.1, 2, .inl po)), (am 1, .inl (K.2.1, 2, .inl ca)), (am 2, .inl (K.2.1, 2, .inl go)), (am 3, .inl (K.2.1, 8, .inl le)), (am 4, .inl (K.2.1, 160, .inl pg)), (am 5, .inl (K.2.2.1, 128, .inl mk)), (am 6, .inl (K.2.2.1, 128, .inl we)), (am 7, .inl (K.2.1, 6, .inl co))]) rfl ?_
  obtain ⟨kl, k20, kp, kg⟩ := hR w hw
  refine g_aload_n (pc := 0) hX dX3_isIn_0 rfl 0 rfl ?_
  refine g_iload_n (pc := 1) hX dX3_isIn_1 rfl 1 rfl ?_
  refine g_iload_n (pc := 2) hX dX3_isIn_2 rfl 2 rfl ?_
  refine g_ci (pc := 3) hX (wc := [(m, .inr (3, [.ref (am 0), .ref (am 1), .ref (am 2), .ref (am 3), .ref (am 4), .ref (am 5), .ref (am 6), .ref (am 7), .int rd, .int wr, .int vi])), (am 0, .inl (K.2.1, 2, .inl po)), (am 1, .inl (K.2.1, 2, .inl ca)), (am 2, .inl (K.2.1, 2, .inl go)), (am 3, .inl (K.2.1, 8, .inl le)), (am 4, .inl (K.2.1, 160, .inl pg)), (am 5, .inl (K.2.2.1, 128, .inl mk)), (am 6, .inl (K.2.2.1, 128, .inl we)), (am 7, .inl (K.2.1, 6, .inl co))]) (wr := []) (Wd' := fun u => [(m, .inr (3, [.ref (am 0), .ref (am 1), .ref (am 2), .ref (am 3), .ref (am 4), .ref (am 5), .ref (am 6), .ref (am 7), .int rd, .int wr, .int vi])), (am 0, .inl (K.2.1, 2, .inl po)), (am 1, .inl (K.2.1, 2, .inl ca)), (am 2, .inl (K.2.1, 2, .inl go)), (am 3, .inl (K.2.1, 8, .inl le)), (am 4, .inl (K.2.1, 160, .inl pg)), (am 5, .inl (K.2.2.1, 128, .inl mk)), (am 6, .inl (K.2.2.1, 128, .inl we)), (am 7, .inl (K.2.1, 6, .inl co))]) (g_goV (pc := 3) hX (As := [.int (nI w), .int (nI x)]) (stk := []) (wc := [(m, .inr (3, [.ref (am 0), .ref (am 1), .ref (am 2), .ref (am 3), .ref (am 4), .ref (am 5), .ref (am 6), .ref (am 7), .int rd, .int wr, .int vi])), (am 0, .inl (K.2.1, 2, .inl po)), (am 1, .inl (K.2.1, 2, .inl ca)), (am 2, .inl (K.2.1, 2, .inl go)), (am 3, .inl (K.2.1, 8, .inl le)), (am 4, .inl (K.2.1, 160, .inl pg)), (am 5, .inl (K.2.2.1, 128, .inl mk)), (am 6, .inl (K.2.2.1, 128, .inl we)), (am 7, .inl (K.2.1, 6, .inl co))]) (c_X3_placeIn l K m am po ca go le pg mk we co rd wr vi RR hR w hw x hx) rfl rfl rfl gX3_isIn_X3_placeIn nX3_placeInV rfl 0 rfl ⟨(Nat.le_of_ble_eq_true rfl), (Nat.le_of_ble_eq_true rfl)⟩ [0, 1, 2, 3, 4, 5, 6, 7, 8] rfl rfl rfl (Nat.le_of_ble_eq_true rfl) dX3_isIn_3 ⟨(Nat.le_of_ble_eq_true rfl), (Nat.le_of_ble_eq_true rfl)⟩) [0, 1, 2, 3, 4, 5, 6, 7, 8] [] [0, 1, 2, 3, 4, 5, 6, 7, 8] rfl rfl rfl (by decide) rfl (fun _ => rfl) (fun r u h3 => ?_)
  obtain rfl := h3
  by_cases hm : x ∈ RR w
  · refine g_top (y := (nI (ix (RR w) x))) (plI_in hm) ?_
    have hix := ix_lt hm
    refine g_ifN_lt (pc := 6) (tgt := 13) hX (by omega) dX3_isIn_6 (by decide) (fun c6 => absurd c6 (by omega)) (fun c6 => ?_)
    refine g_iconst (pc := 9) (v := (nI 1)) hX dX3_isIn_9 (by decide) ?_
    refine g_goto (pc := 10) (tgt := 14) hX dX3_isIn_10 (by decide) ?_
    refine g_top (y := bI true) (by decide) ?_
    exact hret (v := true) (u := ()) dX3_isIn_14 (by rw [bI_mem hm]; rfl) rfl
  · refine g_top (y := (-1)) (plI_out hm) ?_
    refine g_if_lt (pc := 6) (tgt := 13) hX dX3_isIn_6 (by decide) (fun c6 => ?_) (fun c6 => absurd c6 (fun q => q (by decide)))
    refine g_iconst (pc := 13) (v := (nI 0)) hX dX3_isIn_13 (by decide) ?_
    refine g_top (y := bI false) (by decide) ?_
    exact hret (v := false) (u := ()) dX3_isIn_14 (by rw [bI_nomem hm]; rfl) rfl
abbrev rmX3_toHead : Room := { frames := 0, cells := 0, slots := 0, locals := 0 }
theorem flX3_toHead_19 : Cond.fieldLink RX3 19 "TwoTierCacheModel" "lengths" "[I" ∈ wsX3_toHead := by decide +kernel
theorem inX3_toHead_X3 : ∀ w ∈ u_ws RX3 TX3 11, w ∈ wsX3_toHead := by decide +kernel
theorem flX3_toHead_22 : Cond.fieldLink RX3 22 "TwoTierCacheModel" "pages" "[I" ∈ wsX3_toHead := by decide +kernel
set_option maxHeartbeats 4000000 in
set_option maxRecDepth 100000 in
/-- toHead -/
theorem c_X3_toHead (l : Launch) (K : gT) (m : Nat) (am : Nat → Nat) (po ca go le pg mk we co : Nat → Int32) (rd wr vi : Int32) (RR : Nat → List Nat) (hR : rowsR le pg RR) (w : Nat) (hw : w < 8) (x : Nat) (hx : x < 64) (hl : (x :: RR w).length ≤ 20) : Cv l yX3_toHead wsX3_toHead rmX3_toHead K [.ref m, .int (nI w), .int (nI x)] (mW K m am po ca go le pg mk we co rd wr vi) (fun (u : (Nat → Int32) × (Nat → Int32)) => rowsR u.1 u.2 (va_up RR w (x :: RR w))) (fun u => mW K m am po ca go u.1 u.2 mk we co rd wr vi) 0 0 := by
  refine m_v (cc := cX3_toHead) (own := RX3) (maxL := 4) (lv0 := [(0, .ref m), (1, .int (nI w)), (2, .int (nI x))]) (by decide) rfl rfl (Nat.le_of_ble_eq_true rfl) rfl ?_
  intro X hX hin hret
  refine g_ws (ws' := [(m, .inr (3, [.ref (am 0), .ref (am 1), .ref (am 2), .ref (am 3), .ref (am 4), .ref (am 5), .ref (am 6), .ref (am 7), .int rd, .int wr, .int vi])), (am 0, .inl (K.2.1, 2, .inl po)), (am 1, .inl (K.2.1, 2, .inl ca)), (am 2, .inl (K.2.1, 2, .inl go)), (am 3, .inl (K.2.1, 8, .inl le)), (am 4, .inl (K.2.1, 160, .inl pg)), (am 5, .inl (K.2.2.1, 128, .inl mk)), (am 6, .inl (K.2.2.1, 128, .inl we)), (am 7, .inl (K.2.1, 6, .inl co))]) rfl ?_
  obtain ⟨kl, k20, kp, kg⟩ := hR w hw
  have hl3 : (RR w).length + 1 ≤ 20 := hl
  refine g_aload_n (pc := 0) hX dX3_toHead_0 rfl 0 rfl ?_
  refine g_get (pc := 1) (C := RX3) (T := TX3) (N := 11) (ci := 3) (v := .ref (am 3)) hX inX3_toHead_X3 0 rfl rfl 3 (by decide) flX3_toHead_19 rfl rfl dX3_toHead_1 ?_
  refine g_iload_n (pc := 4) hX dX3_toHead_4 rfl 1 rfl ?_
  refine g_iald (pc := 5) (v := (nI ((RR w).length))) hX 4 rfl (by omega) (by omega) kl dX3_toHead_5 ?_
  refine g_istore_n (pc := 6) (lv' := [(3, .int (nI ((RR w).length))), (0, .ref m), (1, .int (nI w)), (2, .int (nI x))]) hX dX3_toHead_6 rfl (by decide) rfl ?_
  have loop : ∀ (i : Nat) (pg2 : Nat → Int32), i ≤ (RR w).length → (∀ q, 20 * w + i < q → q ≤ 20 * w + (RR w).length → pg2 q = pg (q - 1)) → (∀ q, (q ≤ 20 * w + i ∨ 20 * w + (RR w).length < q) → pg2 q = pg q) → VG X l rmX3_toHead K 4 0 0 [(m, .inr (3, [.ref (am 0), .ref (am 1), .ref (am 2), .ref (am 3), .ref (am 4), .ref (am 5), .ref (am 6), .ref (am 7), .int rd, .int wr, .int vi])), (am 0, .inl (K.2.1, 2, .inl po)), (am 1, .inl (K.2.1, 2, .inl ca)), (am 2, .inl (K.2.1, 2, .inl go)), (am 3, .inl (K.2.1, 8, .inl le)), (am 4, .inl (K.2.1, 160, .inl pg2)), (am 5, .inl (K.2.2.1, 128, .inl mk)), (am 6, .inl (K.2.2.1, 128, .inl we)), (am 7, .inl (K.2.1, 6, .inl co))] [(3, .int (nI i)), (0, .ref m), (1, .int (nI w)), (2, .int (nI x))] [] 7 := by
    intro i
    induction i with
    | zero =>
      intro pg2 h1 h2 h3
      refine g_iload_n (pc := 7) hX dX3_toHead_7 rfl 0 rfl ?_
      refine g_ifN_le (pc := 8) (tgt := 41) hX (by omega) dX3_toHead_8 (by decide) (fun c8 => ?_) (fun c8 => absurd c8 (by omega))
      refine g_aload_n (pc := 41) hX dX3_toHead_41 rfl 1 rfl ?_
      refine g_get (pc := 42) (C := RX3) (T := TX3) (N := 11) (ci := 3) (v := .ref (am 4)) hX inX3_toHead_X3 0 rfl rfl 4 (by decide) flX3_toHead_22 rfl rfl dX3_toHead_42 ?_
      refine g_bipush (pc := 45) (v := (nI 20)) hX dX3_toHead_45 (by decide) ?_
      refine g_iload_n (pc := 47) hX dX3_toHead_47 rfl 2 rfl ?_
      refine g_imulN (pc := 48) (r := 20 * w) hX dX3_toHead_48 (by first | rfl | omega) ?_
      refine g_iload_n (pc := 49) hX dX3_toHead_49 rfl 3 rfl ?_
      refine g_iast (pc := 50) (ws' := [(m, .inr (3, [.ref (am 0), .ref (am 1), .ref (am 2), .ref (am 3), .ref (am 4), .ref (am 5), .ref (am 6), .ref (am 7), .int rd, .int wr, .int vi])), (am 0, .inl (K.2.1, 2, .inl po)), (am 1, .inl (K.2.1, 2, .inl ca)), (am 2, .inl (K.2.1, 2, .inl go)), (am 3, .inl (K.2.1, 8, .inl le)), (am 4, .inl (K.2.1, 160, .inl (upd pg2 (20 * w) (nI x)))), (am 5, .inl (K.2.2.1, 128, .inl mk)), (am 6, .inl (K.2.2.1, 128, .inl we)), (am 7, .inl (K.2.1, 6, .inl co))]) hX 5 rfl (by omega) (by omega) rfl dX3_toHead_50 ?_
      refine g_aload_n (pc := 51) hX dX3_toHead_51 rfl 1 rfl ?_
      refine g_get (pc := 52) (C := RX3) (T := TX3) (N := 11) (ci := 3) (v := .ref (am 3)) hX inX3_toHead_X3 0 rfl rfl 3 (by decide) flX3_toHead_19 rfl rfl dX3_toHead_52 ?_
      refine g_iload_n (pc := 55) hX dX3_toHead_55 rfl 2 rfl ?_
      refine g_aload_n (pc := 56) hX dX3_toHead_56 rfl 1 rfl ?_
      refine g_get (pc := 57) (C := RX3) (T := TX3) (N := 11) (ci := 3) (v := .ref (am 3)) hX inX3_toHead_X3 0 rfl rfl 3 (by decide) flX3_toHead_19 rfl rfl dX3_toHead_57 ?_
      refine g_iload_n (pc := 60) hX dX3_toHead_60 rfl 2 rfl ?_
      refine g_iald (pc := 61) (v := (nI ((RR w).length))) hX 4 rfl (by omega) (by omega) kl dX3_toHead_61 ?_
      refine g_iconst (pc := 62) (v := (nI 1)) hX dX3_toHead_62 (by decide) ?_
      refine g_iaddN (pc := 63) (r := ((RR w).length) + 1) hX dX3_toHead_63 (by first | rfl | omega) ?_
      refine g_iast (pc := 64) (ws' := [(m, .inr (3, [.ref (am 0), .ref (am 1), .ref (am 2), .ref (am 3), .ref (am 4), .ref (am 5), .ref (am 6), .ref (am 7), .int rd, .int wr, .int vi])), (am 0, .inl (K.2.1, 2, .inl po)), (am 1, .inl (K.2.1, 2, .inl ca)), (am 2, .inl (K.2.1, 2, .inl go)), (am 3, .inl (K.2.1, 8, .inl (upd le w (nI (((RR w).length) + 1))))), (am 4, .inl (K.2.1, 160, .inl (upd pg2 (20 * w) (nI x)))), (am 5, .inl (K.2.2.1, 128, .inl mk)), (am 6, .inl (K.2.2.1, 128, .inl we)), (am 7, .inl (K.2.1, 6, .inl co))]) hX 4 rfl (by omega) (by omega) rfl dX3_toHead_64 ?_
      refine hret (u := (upd le w (nI ((RR w).length + 1)), upd pg2 (20 * w) (nI x))) dX3_toHead_65 (rowsR.up (le2 := upd le w (nI ((RR w).length + 1))) (pg2 := upd pg2 (20 * w) (nI x)) hR pk_us (fun v e => pk_un e) hl (pB.cons hx kp) (fun i hi => ?_) (fun q hq => ?_)) rfl
      · have hi2 : i < (RR w).length + 1 := hi
        rw [gd_cons]
        by_cases e : i = 0
        · rw [if_pos e, e]; exact pk_us
        · rw [if_neg e, pk_un (by omega), h2 _ (by omega) (by omega), show 20 * w + i - 1 = 20 * w + (i - 1) by omega]
          exact kg _ (by omega)
      · have hl2 : (RR w).length + 1 ≤ 20 := hl
        rw [pk_un (by omega)]
        exact h3 q (by omega)
    | succ i ih =>
      intro pg2 h1 h2 h3
      refine g_iload_n (pc := 7) hX dX3_toHead_7 rfl 0 rfl ?_
      refine g_ifN_le (pc := 8) (tgt := 41) hX (by omega) dX3_toHead_8 (by decide) (fun c8 => absurd c8 (by omega)) (fun c8 => ?_)
      refine g_aload_n (pc := 11) hX dX3_toHead_11 rfl 1 rfl ?_
      refine g_get (pc := 12) (C := RX3) (T := TX3) (N := 11) (ci := 3) (v := .ref (am 4)) hX inX3_toHead_X3 0 rfl rfl 4 (by decide) flX3_toHead_22 rfl rfl dX3_toHead_12 ?_
      refine g_bipush (pc := 15) (v := (nI 20)) hX dX3_toHead_15 (by decide) ?_
      refine g_iload_n (pc := 17) hX dX3_toHead_17 rfl 2 rfl ?_
      refine g_imulN (pc := 18) (r := 20 * w) hX dX3_toHead_18 (by first | rfl | omega) ?_
      refine g_iload_n (pc := 19) hX dX3_toHead_19 rfl 0 rfl ?_
      refine g_iaddN (pc := 20) (r := (20 * w) + (i + 1)) hX dX3_toHead_20 (by first | rfl | omega) ?_
      refine g_aload_n (pc := 21) hX dX3_toHead_21 rfl 1 rfl ?_
      refine g_get (pc := 22) (C := RX3) (T := TX3) (N := 11) (ci := 3) (v := .ref (am 4)) hX inX3_toHead_X3 0 rfl rfl 4 (by decide) flX3_toHead_22 rfl rfl dX3_toHead_22 ?_
      refine g_bipush (pc := 25) (v := (nI 20)) hX dX3_toHead_25 (by decide) ?_
      refine g_iload_n (pc := 27) hX dX3_toHead_27 rfl 2 rfl ?_
      refine g_imulN (pc := 28) (r := 20 * w) hX dX3_toHead_28 (by first | rfl | omega) ?_
      refine g_iload_n (pc := 29) hX dX3_toHead_29 rfl 0 rfl ?_
      refine g_iaddN (pc := 30) (r := (20 * w) + (i + 1)) hX dX3_toHead_30 (by first | rfl | omega) ?_
      refine g_iconst (pc := 31) (v := (nI 1)) hX dX3_toHead_31 (by decide) ?_
      refine g_isubN (pc := 32) (r := 20 * w + i) hX dX3_toHead_32 (by omega) ?_
      refine g_iald (pc := 33) (v := (pg2 (20 * w + i))) hX 5 rfl (by omega) (by omega) rfl dX3_toHead_33 ?_
      refine g_iast (pc := 34) (ws' := [(m, .inr (3, [.ref (am 0), .ref (am 1), .ref (am 2), .ref (am 3), .ref (am 4), .ref (am 5), .ref (am 6), .ref (am 7), .int rd, .int wr, .int vi])), (am 0, .inl (K.2.1, 2, .inl po)), (am 1, .inl (K.2.1, 2, .inl ca)), (am 2, .inl (K.2.1, 2, .inl go)), (am 3, .inl (K.2.1, 8, .inl le)), (am 4, .inl (K.2.1, 160, .inl (upd pg2 ((20 * w) + (i + 1)) (pg2 (20 * w + i))))), (am 5, .inl (K.2.2.1, 128, .inl mk)), (am 6, .inl (K.2.2.1, 128, .inl we)), (am 7, .inl (K.2.1, 6, .inl co))]) hX 5 rfl (by omega) (by omega) rfl dX3_toHead_34 ?_
      refine g_iinc (pc := 35) (z := 0) (v := (nI i)) (lv' := [(3, .int (nI i)), (0, .ref m), (1, .int (nI w)), (2, .int (nI x))]) hX dX3_toHead_35 rfl (pk_m1 _) (by decide) rfl ?_
      refine g_goto (pc := 38) (tgt := 7) hX dX3_toHead_38 (by decide) ?_
      refine g_sub [0, 1, 2, 3] (lv' := [(3, .int (nI i)), (0, .ref m), (1, .int (nI w)), (2, .int (nI x))]) rfl ?_
      refine ih _ (by omega) (fun q q1 q2 => ?_) (fun q q1 => ?_)
      · by_cases e : q = 20 * w + (i + 1)
        · subst e
          rw [pk_us]
          exact h3 _ (Or.inl (by omega))
        · rw [pk_un e]
          exact h2 q (by omega) q2
      · rw [pk_un (by omega)]
        exact h3 q (by omega)
  refine g_sub [0, 1, 2, 3] (lv' := [(3, .int (nI ((RR w).length))), (0, .ref m), (1, .int (nI w)), (2, .int (nI x))]) rfl ?_
  exact loop _ pg (Nat.le_refl _) (fun q q1 q2 => absurd q1 (by omega)) (fun _ _ => rfl)
abbrev rmX3_toTail : Room := { frames := 0, cells := 0, slots := 0, locals := 0 }
theorem flX3_toTail_22 : Cond.fieldLink RX3 22 "TwoTierCacheModel" "pages" "[I" ∈ wsX3_toTail := by decide +kernel
theorem inX3_toTail_X3 : ∀ w ∈ u_ws RX3 TX3 11, w ∈ wsX3_toTail := by decide +kernel
theorem flX3_toTail_19 : Cond.fieldLink RX3 19 "TwoTierCacheModel" "lengths" "[I" ∈ wsX3_toTail := by decide +kernel
set_option maxHeartbeats 4000000 in
set_option maxRecDepth 100000 in
/-- toTail -/
theorem c_X3_toTail (l : Launch) (K : gT) (m : Nat) (am : Nat → Nat) (po ca go le pg mk we co : Nat → Int32) (rd wr vi : Int32) (RR : Nat → List Nat) (hR : rowsR le pg RR) (w : Nat) (hw : w < 8) (x : Nat) (hx : x < 64) (hl : (RR w).length + 1 ≤ 20) : Cv l yX3_toTail wsX3_toTail rmX3_toTail K [.ref m, .int (nI w), .int (nI x)] (mW K m am po ca go le pg mk we co rd wr vi) (fun (u : (Nat → Int32) × (Nat → Int32)) => rowsR u.1 u.2 (va_up RR w (RR w ++ [x]))) (fun u => mW K m am po ca go u.1 u.2 mk we co rd wr vi) 0 0 := by
  refine m_v (cc := cX3_toTail) (own := RX3) (maxL := 3) (lv0 := [(0, .ref m), (1, .int (nI w)), (2, .int (nI x))]) (by decide) rfl rfl (Nat.le_of_ble_eq_true rfl) rfl ?_
  intro X hX hin hret
  refine g_ws (ws' := [(m, .inr (3, [.ref (am 0), .ref (am 1), .ref (am 2), .ref (am 3), .ref (am 4), .ref (am 5), .ref (am 6), .ref (am 7), .int rd, .int wr, .int vi])), (am 0, .inl (K.2.1, 2, .inl po)), (am 1, .inl (K.2.1, 2, .inl ca)), (am 2, .inl (K.2.1, 2, .inl go)), (am 3, .inl (K.2.1, 8, .inl le)), (am 4, .inl (K.2.1, 160, .inl pg)), (am 5, .inl (K.2.2.1, 128, .inl mk)), (am 6, .inl (K.2.2.1, 128, .inl we)), (am 7, .inl (K.2.1, 6, .inl co))]) rfl ?_
  obtain ⟨kl, k20, kp, kg⟩ := hR w hw
  refine g_aload_n (pc := 0) hX dX3_toTail_0 rfl 0 rfl ?_
  refine g_get (pc := 1) (C := RX3) (T := TX3) (N := 11) (ci := 3) (v := .ref (am 4)) hX inX3_toTail_X3 0 rfl rfl 4 (by decide) flX3_toTail_22 rfl rfl dX3_toTail_1 ?_
  refine g_bipush (pc := 4) (v := (nI 20)) hX dX3_toTail_4 (by decide) ?_
  refine g_iload_n (pc := 6) hX dX3_toTail_6 rfl 1 rfl ?_
  refine g_imulN (pc := 7) (r := 20 * w) hX dX3_toTail_7 (by first | rfl | omega) ?_
  refine g_aload_n (pc := 8) hX dX3_toTail_8 rfl 0 rfl ?_
  refine g_get (pc := 9) (C := RX3) (T := TX3) (N := 11) (ci := 3) (v := .ref (am 3)) hX inX3_toTail_X3 0 rfl rfl 3 (by decide) flX3_toTail_19 rfl rfl dX3_toTail_9 ?_
  refine g_iload_n (pc := 12) hX dX3_toTail_12 rfl 1 rfl ?_
  refine g_iald (pc := 13) (v := (nI ((RR w).length))) hX 4 rfl (by omega) (by omega) kl dX3_toTail_13 ?_
  refine g_iaddN (pc := 14) (r := (20 * w) + ((RR w).length)) hX dX3_toTail_14 (by first | rfl | omega) ?_
  refine g_iload_n (pc := 15) hX dX3_toTail_15 rfl 2 rfl ?_
  refine g_iast (pc := 16) (ws' := [(m, .inr (3, [.ref (am 0), .ref (am 1), .ref (am 2), .ref (am 3), .ref (am 4), .ref (am 5), .ref (am 6), .ref (am 7), .int rd, .int wr, .int vi])), (am 0, .inl (K.2.1, 2, .inl po)), (am 1, .inl (K.2.1, 2, .inl ca)), (am 2, .inl (K.2.1, 2, .inl go)), (am 3, .inl (K.2.1, 8, .inl le)), (am 4, .inl (K.2.1, 160, .inl (upd pg ((20 * w) + ((RR w).length)) (nI x)))), (am 5, .inl (K.2.2.1, 128, .inl mk)), (am 6, .inl (K.2.2.1, 128, .inl we)), (am 7, .inl (K.2.1, 6, .inl co))]) hX 5 rfl (by omega) (by omega) rfl dX3_toTail_16 ?_
  refine g_aload_n (pc := 17) hX dX3_toTail_17 rfl 0 rfl ?_
  refine g_get (pc := 18) (C := RX3) (T := TX3) (N := 11) (ci := 3) (v := .ref (am 3)) hX inX3_toTail_X3 0 rfl rfl 3 (by decide) flX3_toTail_19 rfl rfl dX3_toTail_18 ?_
  refine g_iload_n (pc := 21) hX dX3_toTail_21 rfl 1 rfl ?_
  refine g_aload_n (pc := 22) hX dX3_toTail_22 rfl 0 rfl ?_
  refine g_get (pc := 23) (C := RX3) (T := TX3) (N := 11) (ci := 3) (v := .ref (am 3)) hX inX3_toTail_X3 0 rfl rfl 3 (by decide) flX3_toTail_19 rfl rfl dX3_toTail_23 ?_
  refine g_iload_n (pc := 26) hX dX3_toTail_26 rfl 1 rfl ?_
  refine g_iald (pc := 27) (v := (nI ((RR w).length))) hX 4 rfl (by omega) (by omega) kl dX3_toTail_27 ?_
  refine g_iconst (pc := 28) (v := (nI 1)) hX dX3_toTail_28 (by decide) ?_
  refine g_iaddN (pc := 29) (r := ((RR w).length) + 1) hX dX3_toTail_29 (by first | rfl | omega) ?_
  refine g_iast (pc := 30) (ws' := [(m, .inr (3, [.ref (am 0), .ref (am 1), .ref (am 2), .ref (am 3), .ref (am 4), .ref (am 5), .ref (am 6), .ref (am 7), .int rd, .int wr, .int vi])), (am 0, .inl (K.2.1, 2, .inl po)), (am 1, .inl (K.2.1, 2, .inl ca)), (am 2, .inl (K.2.1, 2, .inl go)), (am 3, .inl (K.2.1, 8, .inl (upd le w (nI (((RR w).length) + 1))))), (am 4, .inl (K.2.1, 160, .inl (upd pg ((20 * w) + ((RR w).length)) (nI x)))), (am 5, .inl (K.2.2.1, 128, .inl mk)), (am 6, .inl (K.2.2.1, 128, .inl we)), (am 7, .inl (K.2.1, 6, .inl co))]) hX 4 rfl (by omega) (by omega) rfl dX3_toTail_30 ?_
  refine hret (u := (upd le w (nI ((RR w).length + 1)), upd pg (20 * w + (RR w).length) (nI x))) dX3_toTail_31 (rowsR.up (le2 := upd le w (nI ((RR w).length + 1))) (pg2 := upd pg (20 * w + (RR w).length) (nI x)) hR (by rw [pk_us, List.length_append]; rfl) (fun v e => pk_un e) (by rw [List.length_append]; exact hl) (pB.app kp hx) (fun i hi => ?_) (fun q hq => pk_un (by omega))) rfl
  rw [List.length_append] at hi
  have hi2 : i < (RR w).length + 1 := hi
  rw [ap_get]
  by_cases e : i = (RR w).length
  · rw [if_neg (by omega), if_pos e, e, pk_us]
  · rw [if_pos (by omega), pk_un (by omega)]
    exact kg _ (by omega)
abbrev rmX3_cutTail : Room := { frames := 0, cells := 0, slots := 0, locals := 0 }
theorem flX3_cutTail_19 : Cond.fieldLink RX3 19 "TwoTierCacheModel" "lengths" "[I" ∈ wsX3_cutTail := by decide +kernel
theorem inX3_cutTail_X3 : ∀ w ∈ u_ws RX3 TX3 11, w ∈ wsX3_cutTail := by decide +kernel
theorem flX3_cutTail_22 : Cond.fieldLink RX3 22 "TwoTierCacheModel" "pages" "[I" ∈ wsX3_cutTail := by decide +kernel
set_option maxHeartbeats 4000000 in
set_option maxRecDepth 100000 in
/-- cutTail -/
theorem c_X3_cutTail (l : Launch) (K : gT) (m : Nat) (am : Nat → Nat) (po ca go le pg mk we co : Nat → Int32) (rd wr vi : Int32) (RR : Nat → List Nat) (hR : rowsR le pg RR) (w : Nat) (hw : w < 8) (h0 : 0 < (RR w).length) : Ci l yX3_cutTail wsX3_cutTail rmX3_cutTail K [.ref m, .int (nI w)] (mW K m am po ca go le pg mk we co rd wr vi) (fun (r : Int32) (u : Nat → Int32) => r = nI (lastD (RR w)) ∧ rowsR u pg (va_up RR w (RR w).dropLast)) (fun u => mW K m am po ca go u pg mk we co rd wr vi) 0 0 := by
  refine m_i (cc := cX3_cutTail) (own := RX3) (maxL := 2) (lv0 := [(0, .ref m), (1, .int (nI w))]) (by decide) rfl rfl (Nat.le_of_ble_eq_true rfl) rfl ?_
  intro X hX hin hret
  refine g_ws (ws' := [(m, .inr (3, [.ref (am 0), .ref (am 1), .ref (am 2), .ref (am 3), .ref (am 4), .ref (am 5), .ref (am 6), .ref (am 7), .int rd, .int wr, .int vi])), (am 0, .inl (K.2.1, 2, .inl po)), (am 1, .inl (K.2.1, 2, .inl ca)), (am 2, .inl (K.2.1, 2, .inl go)), (am 3, .inl (K.2.1, 8, .inl le)), (am 4, .inl (K.2.1, 160, .inl pg)), (am 5, .inl (K.2.2.1, 128, .inl mk)), (am 6, .inl (K.2.2.1, 128, .inl we)), (am 7, .inl (K.2.1, 6, .inl co))]) rfl ?_
  obtain ⟨kl, k20, kp, kg⟩ := hR w hw
  refine g_aload_n (pc := 0) hX dX3_cutTail_0 rfl 0 rfl ?_
  refine g_get (pc := 1) (C := RX3) (T := TX3) (N := 11) (ci := 3) (v := .ref (am 3)) hX inX3_cutTail_X3 0 rfl rfl 3 (by decide) flX3_cutTail_19 rfl rfl dX3_cutTail_1 ?_
  refine g_iload_n (pc := 4) hX dX3_cutTail_4 rfl 1 rfl ?_
  refine g_aload_n (pc := 5) hX dX3_cutTail_5 rfl 0 rfl ?_
  refine g_get (pc := 6) (C := RX3) (T := TX3) (N := 11) (ci := 3) (v := .ref (am 3)) hX inX3_cutTail_X3 0 rfl rfl 3 (by decide) flX3_cutTail_19 rfl rfl dX3_cutTail_6 ?_
  refine g_iload_n (pc := 9) hX dX3_cutTail_9 rfl 1 rfl ?_
  refine g_iald (pc := 10) (v := (nI ((RR w).length))) hX 4 rfl (by omega) (by omega) kl dX3_cutTail_10 ?_
  refine g_iconst (pc := 11) (v := (nI 1)) hX dX3_cutTail_11 (by decide) ?_
  refine g_isubN (pc := 12) (r := ((RR w).length) - 1) hX dX3_cutTail_12 (by omega) ?_
  refine g_iast (pc := 13) (ws' := [(m, .inr (3, [.ref (am 0), .ref (am 1), .ref (am 2), .ref (am 3), .ref (am 4), .ref (am 5), .ref (am 6), .ref (am 7), .int rd, .int wr, .int vi])), (am 0, .inl (K.2.1, 2, .inl po)), (am 1, .inl (K.2.1, 2, .inl ca)), (am 2, .inl (K.2.1, 2, .inl go)), (am 3, .inl (K.2.1, 8, .inl (upd le w (nI (((RR w).length) - 1))))), (am 4, .inl (K.2.1, 160, .inl pg)), (am 5, .inl (K.2.2.1, 128, .inl mk)), (am 6, .inl (K.2.2.1, 128, .inl we)), (am 7, .inl (K.2.1, 6, .inl co))]) hX 4 rfl (by omega) (by omega) rfl dX3_cutTail_13 ?_
  refine g_aload_n (pc := 14) hX dX3_cutTail_14 rfl 0 rfl ?_
  refine g_get (pc := 15) (C := RX3) (T := TX3) (N := 11) (ci := 3) (v := .ref (am 4)) hX inX3_cutTail_X3 0 rfl rfl 4 (by decide) flX3_cutTail_22 rfl rfl dX3_cutTail_15 ?_
  refine g_bipush (pc := 18) (v := (nI 20)) hX dX3_cutTail_18 (by decide) ?_
  refine g_iload_n (pc := 20) hX dX3_cutTail_20 rfl 1 rfl ?_
  refine g_imulN (pc := 21) (r := 20 * w) hX dX3_cutTail_21 (by first | rfl | omega) ?_
  refine g_aload_n (pc := 22) hX dX3_cutTail_22 rfl 0 rfl ?_
  refine g_get (pc := 23) (C := RX3) (T := TX3) (N := 11) (ci := 3) (v := .ref (am 3)) hX inX3_cutTail_X3 0 rfl rfl 3 (by decide) flX3_cutTail_19 rfl rfl dX3_cutTail_23 ?_
  refine g_iload_n (pc := 26) hX dX3_cutTail_26 rfl 1 rfl ?_
  refine g_iald (pc := 27) (v := (nI ((RR w).length - 1))) hX 4 rfl (by omega) (by omega) pk_us dX3_cutTail_27 ?_
  refine g_iaddN (pc := 28) (r := (20 * w) + ((RR w).length - 1)) hX dX3_cutTail_28 (by first | rfl | omega) ?_
  refine g_iald (pc := 29) (v := (nI (lastD (RR w)))) hX 5 rfl (by omega) (by omega) (kg _ (by omega)) dX3_cutTail_29 ?_
  exact hret (u := upd le w (nI ((RR w).length - 1))) dX3_cutTail_30 (⟨rfl, hR.cut hw⟩) rfl
abbrev rmX3_takeOut : Room := { frames := 1, cells := 0, slots := 0, locals := 23 }
theorem flX3_takeOut_19 : Cond.fieldLink RX3 19 "TwoTierCacheModel" "lengths" "[I" ∈ wsX3_takeOut := by decide +kernel
theorem inX3_takeOut_X3 : ∀ w ∈ u_ws RX3 TX3 11, w ∈ wsX3_takeOut := by decide +kernel
theorem flX3_takeOut_22 : Cond.fieldLink RX3 22 "TwoTierCacheModel" "pages" "[I" ∈ wsX3_takeOut := by decide +kernel
set_option maxHeartbeats 4000000 in
set_option maxRecDepth 100000 in
/-- takeOut -/
theorem c_X3_takeOut (l : Launch) (K : gT) (m : Nat) (am : Nat → Nat) (po ca go le pg mk we co : Nat → Int32) (rd wr vi : Int32) (RR : Nat → List Nat) (hR : rowsR le pg RR) (w : Nat) (hw : w < 8) (x : Nat) (hx : x < 64) (hm : x ∈ RR w) : Cv l yX3_takeOut wsX3_takeOut rmX3_takeOut K [.ref m, .int (nI w), .int (nI x)] (mW K m am po ca go le pg mk we co rd wr vi) (fun (u : (Nat → Int32) × (Nat → Int32)) => rowsR u.1 u.2 (va_up RR w (rm (RR w) x))) (fun u => mW K m am po ca go u.1 u.2 mk we co rd wr vi) 0 0 := by
  refine m_v (cc := cX3_takeOut) (own := RX3) (maxL := 5) (lv0 := [(0, .ref m), (1, .int (nI w)), (2, .int (nI x))]) (by decide) rfl rfl (Nat.le_of_ble_eq_true rfl) rfl ?_
  intro X hX hin hret
  refine g_ws (ws' := [(m, .inr (3, [.ref (am 0), .ref (am 1), .ref (am 2), .ref (am 3), .ref (am 4), .ref (am 5), .ref (am 6), .ref (am 7), .int rd, .int wr, .int vi])), (am 0, .inl (K.2.1, 2, .inl po)), (am 1, .inl (K.2.1, 2, .inl ca)), (am 2, .inl (K.2.1, 2, .inl go)), (am 3, .inl (K.2.1, 8, .inl le)), (am 4, .inl (K.2.1, 160, .inl pg)), (am 5, .inl (K.2.2.1, 128, .inl mk)), (am 6, .inl (K.2.2.1, 128, .inl we)), (am 7, .inl (K.2.1, 6, .inl co))]) rfl ?_
  obtain ⟨kl, k20, kp, kg⟩ := hR w hw
  have hix := ix_lt hm
  refine g_aload_n (pc := 0) hX dX3_takeOut_0 rfl 0 rfl ?_
  refine g_iload_n (pc := 1) hX dX3_takeOut_1 rfl 1 rfl ?_
  refine g_iload_n (pc := 2) hX dX3_takeOut_2 rfl 2 rfl ?_
  refine g_ci (pc := 3) hX (wc := [(m, .inr (3, [.ref (am 0), .ref (am 1), .ref (am 2), .ref (am 3), .ref (am 4), .ref (am 5), .ref (am 6), .ref (am 7), .int rd, .int wr, .int vi])), (am 0, .inl (K.2.1, 2, .inl po)), (am 1, .inl (K.2.1, 2, .inl ca)), (am 2, .inl (K.2.1, 2, .inl go)), (am 3, .inl (K.2.1, 8, .inl le)), (am 4, .inl (K.2.1, 160, .inl pg)), (am 5, .inl (K.2.2.1, 128, .inl mk)), (am 6, .inl (K.2.2.1, 128, .inl we)), (am 7, .inl (K.2.1, 6, .inl co))]) (wr := []) (Wd' := fun u => [(m, .inr (3, [.ref (am 0), .ref (am 1), .ref (am 2), .ref (am 3), .ref (am 4), .ref (am 5), .ref (am 6), .ref (am 7), .int rd, .int wr, .int vi])), (am 0, .inl (K.2.1, 2, .inl po)), (am 1, .inl (K.2.1, 2, .inl ca)), (am 2, .inl (K.2.1, 2, .inl go)), (am 3, .inl (K.2.1, 8, .inl le)), (am 4, .inl (K.2.1, 160, .inl pg)), (am 5, .inl (K.2.2.1, 128, .inl mk)), (am 6, .inl (K.2.2.1, 128, .inl we)), (am 7, .inl (K.2.1, 6, .inl co))]) (g_goV (pc := 3) hX (As := [.int (nI w), .int (nI x)]) (stk := []) (wc := [(m, .inr (3, [.ref (am 0), .ref (am 1), .ref (am 2), .ref (am 3), .ref (am 4), .ref (am 5), .ref (am 6), .ref (am 7), .int rd, .int wr, .int vi])), (am 0, .inl (K.2.1, 2, .inl po)), (am 1, .inl (K.2.1, 2, .inl ca)), (am 2, .inl (K.2.1, 2, .inl go)), (am 3, .inl (K.2.1, 8, .inl le)), (am 4, .inl (K.2.1, 160, .inl pg)), (am 5, .inl (K.2.2.1, 128, .inl mk)), (am 6, .inl (K.2.2.1, 128, .inl we)), (am 7, .inl (K.2.1, 6, .inl co))]) (c_X3_placeIn l K m am po ca go le pg mk we co rd wr vi RR hR w hw x hx) rfl rfl rfl gX3_takeOut_X3_placeIn nX3_placeInV rfl 0 rfl ⟨(Nat.le_of_ble_eq_true rfl), (Nat.le_of_ble_eq_true rfl)⟩ [0, 1, 2, 3, 4, 5, 6, 7, 8] rfl rfl rfl (Nat.le_of_ble_eq_true rfl) dX3_takeOut_3 ⟨(Nat.le_of_ble_eq_true rfl), (Nat.le_of_ble_eq_true rfl)⟩) [0, 1, 2, 3, 4, 5, 6, 7, 8] [] [0, 1, 2, 3, 4, 5, 6, 7, 8] rfl rfl rfl (by decide) rfl (fun _ => rfl) (fun r u h3 => ?_)
  obtain rfl := h3
  refine g_top (y := (nI (ix (RR w) x))) (plI_in hm) ?_
  refine g_istore_n (pc := 6) (lv' := [(3, .int (nI (ix (RR w) x))), (0, .ref m), (1, .int (nI w)), (2, .int (nI x))]) hX dX3_takeOut_6 rfl (by decide) rfl ?_
  refine g_aload_n (pc := 7) hX dX3_takeOut_7 rfl 1 rfl ?_
  refine g_get (pc := 8) (C := RX3) (T := TX3) (N := 11) (ci := 3) (v := .ref (am 3)) hX inX3_takeOut_X3 0 rfl rfl 3 (by decide) flX3_takeOut_19 rfl rfl dX3_takeOut_8 ?_
  refine g_iload_n (pc := 11) hX dX3_takeOut_11 rfl 2 rfl ?_
  refine g_aload_n (pc := 12) hX dX3_takeOut_12 rfl 1 rfl ?_
  refine g_get (pc := 13) (C := RX3) (T := TX3) (N := 11) (ci := 3) (v := .ref (am 3)) hX inX3_takeOut_X3 0 rfl rfl 3 (by decide) flX3_takeOut_19 rfl rfl dX3_takeOut_13 ?_
  refine g_iload_n (pc := 16) hX dX3_takeOut_16 rfl 2 rfl ?_
  refine g_iald (pc := 17) (v := (nI ((RR w).length))) hX 4 rfl (by omega) (by omega) kl dX3_takeOut_17 ?_
  refine g_iconst (pc := 18) (v := (nI 1)) hX dX3_takeOut_18 (by decide) ?_
  refine g_isubN (pc := 19) (r := ((RR w).length) - 1) hX dX3_takeOut_19 (by omega) ?_
  refine g_iast (pc := 20) (ws' := [(m, .inr (3, [.ref (am 0), .ref (am 1), .ref (am 2), .ref (am 3), .ref (am 4), .ref (am 5), .ref (am 6), .ref (am 7), .int rd, .int wr, .int vi])), (am 0, .inl (K.2.1, 2, .inl po)), (am 1, .inl (K.2.1, 2, .inl ca)), (am 2, .inl (K.2.1, 2, .inl go)), (am 3, .inl (K.2.1, 8, .inl (upd le w (nI (((RR w).length) - 1))))), (am 4, .inl (K.2.1, 160, .inl pg)), (am 5, .inl (K.2.2.1, 128, .inl mk)), (am 6, .inl (K.2.2.1, 128, .inl we)), (am 7, .inl (K.2.1, 6, .inl co))]) hX 4 rfl (by omega) (by omega) rfl dX3_takeOut_20 ?_
  refine g_iload_n (pc := 21) hX dX3_takeOut_21 rfl 0 rfl ?_
  refine g_istore (pc := 22) (lv' := [(4, .int (nI (ix (RR w) x))), (3, .int (nI (ix (RR w) x))), (0, .ref m), (1, .int (nI w)), (2, .int (nI x))]) hX dX3_takeOut_22 (by decide) rfl ?_
  have loop : ∀ (z i : Nat) (pg2 : Nat → Int32), (RR w).length - i < z → ix (RR w) x ≤ i → i ≤ (RR w).length - 1 → (∀ q, 20 * w + ix (RR w) x ≤ q → q < 20 * w + i → pg2 q = pg (q + 1)) → (∀ q, (q < 20 * w + ix (RR w) x ∨ 20 * w + i ≤ q) → pg2 q = pg q) → VG X l rmX3_takeOut K 5 0 0 [(m, .inr (3, [.ref (am 0), .ref (am 1), .ref (am 2), .ref (am 3), .ref (am 4), .ref (am 5), .ref (am 6), .ref (am 7), .int rd, .int wr, .int vi])), (am 0, .inl (K.2.1, 2, .inl po)), (am 1, .inl (K.2.1, 2, .inl ca)), (am 2, .inl (K.2.1, 2, .inl go)), (am 3, .inl (K.2.1, 8, .inl (upd le w (nI ((RR w).length - 1))))), (am 4, .inl (K.2.1, 160, .inl pg2)), (am 5, .inl (K.2.2.1, 128, .inl mk)), (am 6, .inl (K.2.2.1, 128, .inl we)), (am 7, .inl (K.2.1, 6, .inl co))] [(4, .int (nI i)), (3, .int (nI (ix (RR w) x))), (0, .ref m), (1, .int (nI w)), (2, .int (nI x))] [] 24 := by
    intro z
    induction z with
    | zero => intro i pg2 h1; exact absurd h1 (Nat.not_lt_zero _)
    | succ z ih =>
      intro i pg2 h1 h2 h3 h4 h5
      refine g_iload (pc := 24) hX dX3_takeOut_24 0 rfl ?_
      refine g_aload_n (pc := 26) hX dX3_takeOut_26 rfl 2 rfl ?_
      refine g_get (pc := 27) (C := RX3) (T := TX3) (N := 11) (ci := 3) (v := .ref (am 3)) hX inX3_takeOut_X3 0 rfl rfl 3 (by decide) flX3_takeOut_19 rfl rfl dX3_takeOut_27 ?_
      refine g_iload_n (pc := 30) hX dX3_takeOut_30 rfl 3 rfl ?_
      refine g_iald (pc := 31) (v := (nI ((RR w).length - 1))) hX 4 rfl (by omega) (by omega) pk_us dX3_takeOut_31 ?_
      refine g_icmpN_ge (pc := 32) (tgt := 67) hX (by omega) (by omega) dX3_takeOut_32 (by decide) (fun c32 => ?_) (fun c32 => ?_)
      · have hrl := rm_len hm
        refine hret (u := (upd le w (nI ((RR w).length - 1)), pg2)) dX3_takeOut_67 (rowsR.up (le2 := upd le w (nI ((RR w).length - 1))) (pg2 := pg2) hR (by rw [pk_us, show (RR w).length - 1 = (rm (RR w) x).length by omega]) (fun v e => pk_un e) (by omega) (kp.rm x) (fun j hj => ?_) (fun q hq => h5 q (by omega))) rfl
        rw [rm_get hm]
        by_cases e : j < ix (RR w) x
        · rw [if_pos e, h5 _ (Or.inl (by omega))]
          exact kg _ (by omega)
        · rw [if_neg e, h4 _ (by omega) (by omega), show 20 * w + j + 1 = 20 * w + (j + 1) by omega]
          exact kg _ (by omega)
      · refine g_aload_n (pc := 35) hX dX3_takeOut_35 rfl 2 rfl ?_
        refine g_get (pc := 36) (C := RX3) (T := TX3) (N := 11) (ci := 3) (v := .ref (am 4)) hX inX3_takeOut_X3 0 rfl rfl 4 (by decide) flX3_takeOut_22 rfl rfl dX3_takeOut_36 ?_
        refine g_bipush (pc := 39) (v := (nI 20)) hX dX3_takeOut_39 (by decide) ?_
        refine g_iload_n (pc := 41) hX dX3_takeOut_41 rfl 3 rfl ?_
        refine g_imulN (pc := 42) (r := 20 * w) hX dX3_takeOut_42 (by first | rfl | omega) ?_
        refine g_iload (pc := 43) hX dX3_takeOut_43 0 rfl ?_
        refine g_iaddN (pc := 45) (r := (20 * w) + i) hX dX3_takeOut_45 (by first | rfl | omega) ?_
        refine g_aload_n (pc := 46) hX dX3_takeOut_46 rfl 2 rfl ?_
        refine g_get (pc := 47) (C := RX3) (T := TX3) (N := 11) (ci := 3) (v := .ref (am 4)) hX inX3_takeOut_X3 0 rfl rfl 4 (by decide) flX3_takeOut_22 rfl rfl dX3_takeOut_47 ?_
        refine g_bipush (pc := 50) (v := (nI 20)) hX dX3_takeOut_50 (by decide) ?_
        refine g_iload_n (pc := 52) hX dX3_takeOut_52 rfl 3 rfl ?_
        refine g_imulN (pc := 53) (r := 20 * w) hX dX3_takeOut_53 (by first | rfl | omega) ?_
        refine g_iload (pc := 54) hX dX3_takeOut_54 0 rfl ?_
        refine g_iaddN (pc := 56) (r := (20 * w) + i) hX dX3_takeOut_56 (by first | rfl | omega) ?_
        refine g_iconst (pc := 57) (v := (nI 1)) hX dX3_takeOut_57 (by decide) ?_
        refine g_iaddN (pc := 58) (r := ((20 * w) + i) + 1) hX dX3_takeOut_58 (by first | rfl | omega) ?_
        refine g_iald (pc := 59) (v := (pg2 (((20 * w) + i) + 1))) hX 5 rfl (by omega) (by omega) rfl dX3_takeOut_59 ?_
        refine g_iast (pc := 60) (ws' := [(m, .inr (3, [.ref (am 0), .ref (am 1), .ref (am 2), .ref (am 3), .ref (am 4), .ref (am 5), .ref (am 6), .ref (am 7), .int rd, .int wr, .int vi])), (am 0, .inl (K.2.1, 2, .inl po)), (am 1, .inl (K.2.1, 2, .inl ca)), (am 2, .inl (K.2.1, 2, .inl go)), (am 3, .inl (K.2.1, 8, .inl (upd le w (nI ((RR w).length - 1))))), (am 4, .inl (K.2.1, 160, .inl (upd pg2 ((20 * w) + i) (pg2 (((20 * w) + i) + 1))))), (am 5, .inl (K.2.2.1, 128, .inl mk)), (am 6, .inl (K.2.2.1, 128, .inl we)), (am 7, .inl (K.2.1, 6, .inl co))]) hX 5 rfl (by omega) (by omega) rfl dX3_takeOut_60 ?_
        refine g_iinc (pc := 61) (z := 0) (v := (nI (i + 1))) (lv' := [(4, .int (nI (i + 1))), (3, .int (nI (ix (RR w) x))), (0, .ref m), (1, .int (nI w)), (2, .int (nI x))]) hX dX3_takeOut_61 rfl (by first | exact nI_add _ _ | rfl) (by decide) rfl ?_
        refine g_goto (pc := 64) (tgt := 24) hX dX3_takeOut_64 (by decide) ?_
        refine g_sub [0, 1, 2, 3, 4] (lv' := [(4, .int (nI (i + 1))), (3, .int (nI (ix (RR w) x))), (0, .ref m), (1, .int (nI w)), (2, .int (nI x))]) rfl ?_
        refine ih (i + 1) _ (by omega) (by omega) (by omega) (fun q q1 q2 => ?_) (fun q q1 => ?_)
        · by_cases e : q = 20 * w + i
          · subst e
            rw [pk_us]
            exact h5 _ (Or.inr (by omega))
          · rw [pk_un e]
            exact h4 q q1 (by omega)
        · rw [pk_un (by omega)]
          exact h5 q (by omega)
  refine g_sub [0, 1, 2, 3, 4] (lv' := [(4, .int (nI (ix (RR w) x))), (3, .int (nI (ix (RR w) x))), (0, .ref m), (1, .int (nI w)), (2, .int (nI x))]) rfl ?_
  exact loop _ _ pg (Nat.lt_succ_self _) (Nat.le_refl _) (by omega) (fun q q1 q2 => absurd q1 (by omega)) (fun _ _ => rfl)
abbrev rmX3_move : Room := { frames := 2, cells := 0, slots := 0, locals := 47 }
theorem nX3_takeOutV : yX3_takeOut.cls = RX3 ∧ yX3_takeOut.cls ≠ "java/lang/invoke/MethodHandle" ∧ yX3_takeOut.cls ≠ "java/lang/invoke/VarHandle" ∧ (parseMethodDescriptor yX3_takeOut.desc).map (fun d => d.parameters.length) = some 2 := by decide +kernel
theorem nX3_toHeadV : yX3_toHead.cls = RX3 ∧ yX3_toHead.cls ≠ "java/lang/invoke/MethodHandle" ∧ yX3_toHead.cls ≠ "java/lang/invoke/VarHandle" ∧ (parseMethodDescriptor yX3_toHead.desc).map (fun d => d.parameters.length) = some 2 := by decide +kernel
set_option maxHeartbeats 4000000 in
set_option maxRecDepth 100000 in
/-- move -/
theorem c_X3_move (l : Launch) (K : gT) (m : Nat) (am : Nat → Nat) (po ca go le pg mk we co : Nat → Int32) (rd wr vi : Int32) (RR : Nat → List Nat) (hR : rowsR le pg RR) (fr to : Nat) (hfr : fr < 8) (hto : to < 8) (x : Nat) (hx : x < 64) (hm : x ∈ RR fr) (hl : (x :: va_up RR fr (rm (RR fr) x) to).length ≤ 20) : Cv l yX3_move wsX3_move rmX3_move K [.ref m, .int (nI fr), .int (nI to), .int (nI x)] (mW K m am po ca go le pg mk we co rd wr vi) (fun (u : (Nat → Int32) × (Nat → Int32)) => rowsR u.1 u.2 (va_up (va_up RR fr (rm (RR fr) x)) to (x :: va_up RR fr (rm (RR fr) x) to))) (fun u => mW K m am po ca go u.1 u.2 mk we co rd wr vi) 0 0 := by
  refine m_v (cc := cX3_move) (own := RX3) (maxL := 4) (lv0 := [(0, .ref m), (1, .int (nI fr)), (2, .int (nI to)), (3, .int (nI x))]) (by decide) rfl rfl (Nat.le_of_ble_eq_true rfl) rfl ?_
  intro X hX hin hret
  refine g_ws (ws' := [(m, .inr (3, [.ref (am 0), .ref (am 1), .ref (am 2), .ref (am 3), .ref (am 4), .ref (am 5), .ref (am 6), .ref (am 7), .int rd, .int wr, .int vi])), (am 0, .inl (K.2.1, 2, .inl po)), (am 1, .inl (K.2.1, 2, .inl ca)), (am 2, .inl (K.2.1, 2, .inl go)), (am 3, .inl (K.2.1, 8, .inl le)), (am 4, .inl (K.2.1, 160, .inl pg)), (am 5, .inl (K.2.2.1, 128, .inl mk)), (am 6, .inl (K.2.2.1, 128, .inl we)), (am 7, .inl (K.2.1, 6, .inl co))]) rfl ?_
  refine g_aload_n (pc := 0) hX dX3_move_0 rfl 0 rfl ?_
  refine g_iload_n (pc := 1) hX dX3_move_1 rfl 1 rfl ?_
  refine g_iload_n (pc := 2) hX dX3_move_2 rfl 3 rfl ?_
  refine g_cv (pc := 3) hX (wc := [(m, .inr (3, [.ref (am 0), .ref (am 1), .ref (am 2), .ref (am 3), .ref (am 4), .ref (am 5), .ref (am 6), .ref (am 7), .int rd, .int wr, .int vi])), (am 0, .inl (K.2.1, 2, .inl po)), (am 1, .inl (K.2.1, 2, .inl ca)), (am 2, .inl (K.2.1, 2, .inl go)), (am 3, .inl (K.2.1, 8, .inl le)), (am 4, .inl (K.2.1, 160, .inl pg)), (am 5, .inl (K.2.2.1, 128, .inl mk)), (am 6, .inl (K.2.2.1, 128, .inl we)), (am 7, .inl (K.2.1, 6, .inl co))]) (wr := []) (Wd' := fun u3 => [(m, .inr (3, [.ref (am 0), .ref (am 1), .ref (am 2), .ref (am 3), .ref (am 4), .ref (am 5), .ref (am 6), .ref (am 7), .int rd, .int wr, .int vi])), (am 0, .inl (K.2.1, 2, .inl po)), (am 1, .inl (K.2.1, 2, .inl ca)), (am 2, .inl (K.2.1, 2, .inl go)), (am 3, .inl (K.2.1, 8, .inl u3.1)), (am 4, .inl (K.2.1, 160, .inl u3.2)), (am 5, .inl (K.2.2.1, 128, .inl mk)), (am 6, .inl (K.2.2.1, 128, .inl we)), (am 7, .inl (K.2.1, 6, .inl co))]) (g_goV (pc := 3) hX (As := [.int (nI fr), .int (nI x)]) (stk := []) (wc := [(m, .inr (3, [.ref (am 0), .ref (am 1), .ref (am 2), .ref (am 3), .ref (am 4), .ref (am 5), .ref (am 6), .ref (am 7), .int rd, .int wr, .int vi])), (am 0, .inl (K.2.1, 2, .inl po)), (am 1, .inl (K.2.1, 2, .inl ca)), (am 2, .inl (K.2.1, 2, .inl go)), (am 3, .inl (K.2.1, 8, .inl le)), (am 4, .inl (K.2.1, 160, .inl pg)), (am 5, .inl (K.2.2.1, 128, .inl mk)), (am 6, .inl (K.2.2.1, 128, .inl we)), (am 7, .inl (K.2.1, 6, .inl co))]) (c_X3_takeOut l K m am po ca go le pg mk we co rd wr vi RR hR fr hfr x hx hm) rfl rfl rfl gX3_move_X3_takeOut nX3_takeOutV rfl 0 rfl ⟨(Nat.le_of_ble_eq_true rfl), (Nat.le_of_ble_eq_true rfl)⟩ [0, 1, 2, 3, 4, 5, 6, 7, 8] rfl rfl rfl (Nat.le_of_ble_eq_true rfl) dX3_move_3 ⟨(Nat.le_of_ble_eq_true rfl), (Nat.le_of_ble_eq_true rfl)⟩) [0, 1, 2, 3, 4, 5, 6, 7, 8] [] [0, 1, 2, 3, 4, 5, 6, 7, 8] rfl rfl rfl (by decide) rfl (fun _ => rfl) (fun u3 h3 => ?_)
  have hR3 := h3
  refine g_aload_n (pc := 6) hX dX3_move_6 rfl 0 rfl ?_
  refine g_iload_n (pc := 7) hX dX3_move_7 rfl 2 rfl ?_
  refine g_iload_n (pc := 8) hX dX3_move_8 rfl 3 rfl ?_
  refine g_cv (pc := 9) hX (wc := [(m, .inr (3, [.ref (am 0), .ref (am 1), .ref (am 2), .ref (am 3), .ref (am 4), .ref (am 5), .ref (am 6), .ref (am 7), .int rd, .int wr, .int vi])), (am 0, .inl (K.2.1, 2, .inl po)), (am 1, .inl (K.2.1, 2, .inl ca)), (am 2, .inl (K.2.1, 2, .inl go)), (am 3, .inl (K.2.1, 8, .inl u3.1)), (am 4, .inl (K.2.1, 160, .inl u3.2)), (am 5, .inl (K.2.2.1, 128, .inl mk)), (am 6, .inl (K.2.2.1, 128, .inl we)), (am 7, .inl (K.2.1, 6, .inl co))]) (wr := []) (Wd' := fun u9 => [(m, .inr (3, [.ref (am 0), .ref (am 1), .ref (am 2), .ref (am 3), .ref (am 4), .ref (am 5), .ref (am 6), .ref (am 7), .int rd, .int wr, .int vi])), (am 0, .inl (K.2.1, 2, .inl po)), (am 1, .inl (K.2.1, 2, .inl ca)), (am 2, .inl (K.2.1, 2, .inl go)), (am 3, .inl (K.2.1, 8, .inl u9.1)), (am 4, .inl (K.2.1, 160, .inl u9.2)), (am 5, .inl (K.2.2.1, 128, .inl mk)), (am 6, .inl (K.2.2.1, 128, .inl we)), (am 7, .inl (K.2.1, 6, .inl co))]) (g_goV (pc := 9) hX (As := [.int (nI to), .int (nI x)]) (stk := []) (wc := [(m, .inr (3, [.ref (am 0), .ref (am 1), .ref (am 2), .ref (am 3), .ref (am 4), .ref (am 5), .ref (am 6), .ref (am 7), .int rd, .int wr, .int vi])), (am 0, .inl (K.2.1, 2, .inl po)), (am 1, .inl (K.2.1, 2, .inl ca)), (am 2, .inl (K.2.1, 2, .inl go)), (am 3, .inl (K.2.1, 8, .inl u3.1)), (am 4, .inl (K.2.1, 160, .inl u3.2)), (am 5, .inl (K.2.2.1, 128, .inl mk)), (am 6, .inl (K.2.2.1, 128, .inl we)), (am 7, .inl (K.2.1, 6, .inl co))]) (c_X3_toHead l K m am po ca go u3.1 u3.2 mk we co rd wr vi (va_up RR fr (rm (RR fr) x)) hR3 to hto x hx hl) rfl rfl rfl gX3_move_X3_toHead nX3_toHeadV rfl 0 rfl ⟨(Nat.le_of_ble_eq_true rfl), (Nat.le_of_ble_eq_true rfl)⟩ [0, 1, 2, 3, 4, 5, 6, 7, 8] rfl rfl rfl (Nat.le_of_ble_eq_true rfl) dX3_move_9 ⟨(Nat.le_of_ble_eq_true rfl), (Nat.le_of_ble_eq_true rfl)⟩) [0, 1, 2, 3, 4, 5, 6, 7, 8] [] [0, 1, 2, 3, 4, 5, 6, 7, 8] rfl rfl rfl (by decide) rfl (fun _ => rfl) (fun u9 h9 => ?_)
  have hR9 := h9
  exact hret (u := (u9.1, u9.2)) dX3_move_12 hR9 rfl
