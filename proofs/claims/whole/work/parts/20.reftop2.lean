/-! THE REFERENCE: access, flush, the questions, begin, the constructor -/
abbrev rmX3_access : Room := { frames := 7, cells := 0, slots := 0, locals := 170 }
theorem nX3_isPageS : yX3_isPage.cls ≠ "java/lang/invoke/MethodHandle" ∧ yX3_isPage.cls ≠ "java/lang/invoke/VarHandle" ∧ (parseMethodDescriptor yX3_isPage.desc).map (fun d => d.parameters.length) = some 1 := by decide +kernel
theorem flX3_access_65 : Cond.fieldLink RX3 65 "TwoTierCacheModel" "victim" "I" ∈ wsX3_access := by decide +kernel
theorem inX3_access_X3 : ∀ w ∈ u_ws RX3 TX3 11, w ∈ wsX3_access := by decide +kernel
theorem flX3_access_29 : Cond.fieldLink RX3 29 "TwoTierCacheModel" "wet" "[Z" ∈ wsX3_access := by decide +kernel
theorem nX3_askLowerV : yX3_askLower.cls = RX3 ∧ yX3_askLower.cls ≠ "java/lang/invoke/MethodHandle" ∧ yX3_askLower.cls ≠ "java/lang/invoke/VarHandle" ∧ (parseMethodDescriptor yX3_askLower.desc).map (fun d => d.parameters.length) = some 2 := by decide +kernel
set_option maxHeartbeats 4000000 in
set_option maxRecDepth 100000 in
/-- access -/
theorem c_X3_access (l : Launch) (K : gT) (m : Nat) (am : Nat → Nat) (po ca go le pg mk we co : Nat → Int32) (rd wr vi : Int32) (U L : TS) (hM : mR (sF U L) po ca go le pg mk we co) (iU : tInv U) (iL : tInv L) (x : Int32) (w : Bool) : Ci l yX3_access wsX3_access rmX3_access K [.ref m, .int x, .int (bI w)] (mW K m am po ca go le pg mk we co rd wr vi) (fun (r : Int32) (u : (Nat → Int32) × (Nat → Int32) × (Nat → Int32) × (Nat → Int32) × (Nat → Int32) × (Nat → Int32) × Int32) => r = (cAccess (U, L, rd, wr) x w).1 ∧ mR (sF (cAccess (U, L, rd, wr) x w).2.1 (cAccess (U, L, rd, wr) x w).2.2.1) po ca u.1 u.2.1 u.2.2.1 u.2.2.2.1 u.2.2.2.2.1 u.2.2.2.2.2.1) (fun u => mW K m am po ca u.1 u.2.1 u.2.2.1 u.2.2.2.1 u.2.2.2.2.1 u.2.2.2.2.2.1 ((cAccess (U, L, rd, wr) x w).2.2.2.1) ((cAccess (U, L, rd, wr) x w).2.2.2.2) u.2.2.2.2.2.2) 0 0 := by
  refine m_i (cc := cX3_access) (own := RX3) (maxL := 6) (lv0 := [(0, .ref m), (1, .int x), (2, .int (bI w))]) (by decide) rfl rfl (Nat.le_of_ble_eq_true rfl) rfl ?_
  intro X hX hin hret
  refine g_ws (ws' := [(m, .inr (3, [.ref (am 0), .ref (am 1), .ref (am 2), .ref (am 3), .ref (am 4), .ref (am 5), .ref (am 6), .ref (am 7), .int rd, .int wr, .int vi])), (am 0, .inl (K.2.1, 2, .inl po)), (am 1, .inl (K.2.1, 2, .inl ca)), (am 2, .inl (K.2.1, 2, .inl go)), (am 3, .inl (K.2.1, 8, .inl le)), (am 4, .inl (K.2.1, 160, .inl pg)), (am 5, .inl (K.2.2.1, 128, .inl mk)), (am 6, .inl (K.2.2.1, 128, .inl we)), (am 7, .inl (K.2.1, 6, .inl co))]) rfl ?_
  refine g_iload_n (pc := 0) hX dX3_access_0 rfl 1 rfl ?_
  refine g_ci (pc := 1) hX (wc := []) (wr := [(m, .inr (3, [.ref (am 0), .ref (am 1), .ref (am 2), .ref (am 3), .ref (am 4), .ref (am 5), .ref (am 6), .ref (am 7), .int rd, .int wr, .int vi])), (am 0, .inl (K.2.1, 2, .inl po)), (am 1, .inl (K.2.1, 2, .inl ca)), (am 2, .inl (K.2.1, 2, .inl go)), (am 3, .inl (K.2.1, 8, .inl le)), (am 4, .inl (K.2.1, 160, .inl pg)), (am 5, .inl (K.2.2.1, 128, .inl mk)), (am 6, .inl (K.2.2.1, 128, .inl we)), (am 7, .inl (K.2.1, 6, .inl co))]) (Wd' := fun u => [(m, .inr (3, [.ref (am 0), .ref (am 1), .ref (am 2), .ref (am 3), .ref (am 4), .ref (am 5), .ref (am 6), .ref (am 7), .int rd, .int wr, .int vi])), (am 0, .inl (K.2.1, 2, .inl po)), (am 1, .inl (K.2.1, 2, .inl ca)), (am 2, .inl (K.2.1, 2, .inl go)), (am 3, .inl (K.2.1, 8, .inl le)), (am 4, .inl (K.2.1, 160, .inl pg)), (am 5, .inl (K.2.2.1, 128, .inl mk)), (am 6, .inl (K.2.2.1, 128, .inl we)), (am 7, .inl (K.2.1, 6, .inl co))]) (g_goS (pc := 1) hX (As := [.int x]) (stk := []) (wc := []) (c_X3_isPage l K x) rfl rfl rfl gX3_access_X3_isPage nX3_isPageS ⟨(Nat.le_of_ble_eq_true rfl), (Nat.le_of_ble_eq_true rfl)⟩ [] rfl rfl rfl (Nat.le_of_ble_eq_true rfl) dX3_access_1 ⟨(Nat.le_of_ble_eq_true rfl), (Nat.le_of_ble_eq_true rfl)⟩) [] [0, 1, 2, 3, 4, 5, 6, 7, 8] [0, 1, 2, 3, 4, 5, 6, 7, 8] rfl rfl rfl (by decide) rfl (fun _ => rfl) (fun r u h1 => ?_)
  obtain rfl := h1
  refine g_ifB_ne (pc := 4) (tgt := 9) hX dX3_access_4 (by decide) (fun c4 => ?_) (fun c4 => ?_)
  · obtain ⟨j, hj, rfl⟩ := okPg_of c4
    refine g_iconst (pc := 9) (v := (nI 0)) hX dX3_access_9 (by decide) ?_
    refine g_istore_n (pc := 10) (lv' := [(3, .int (nI 0)), (0, .ref m), (1, .int (nI j)), (2, .int (bI w))]) hX dX3_access_10 rfl (by decide) rfl ?_
    refine g_aload_n (pc := 11) hX dX3_access_11 rfl 1 rfl ?_
    refine g_iconst (pc := 12) (v := (nI 0)) hX dX3_access_12 (by decide) ?_
    refine g_iload_n (pc := 13) hX dX3_access_13 rfl 2 rfl ?_
    refine g_ci (pc := 14) hX (wc := [(m, .inr (3, [.ref (am 0), .ref (am 1), .ref (am 2), .ref (am 3), .ref (am 4), .ref (am 5), .ref (am 6), .ref (am 7), .int rd, .int wr, .int vi])), (am 0, .inl (K.2.1, 2, .inl po)), (am 1, .inl (K.2.1, 2, .inl ca)), (am 2, .inl (K.2.1, 2, .inl go)), (am 3, .inl (K.2.1, 8, .inl le)), (am 4, .inl (K.2.1, 160, .inl pg)), (am 5, .inl (K.2.2.1, 128, .inl mk)), (am 6, .inl (K.2.2.1, 128, .inl we)), (am 7, .inl (K.2.1, 6, .inl co))]) (wr := []) (Wd' := fun u14 => [(m, .inr (3, [.ref (am 0), .ref (am 1), .ref (am 2), .ref (am 3), .ref (am 4), .ref (am 5), .ref (am 6), .ref (am 7), .int rd, .int wr, .int u14.2.2.2.2.2])), (am 0, .inl (K.2.1, 2, .inl po)), (am 1, .inl (K.2.1, 2, .inl ca)), (am 2, .inl (K.2.1, 2, .inl u14.1)), (am 3, .inl (K.2.1, 8, .inl u14.2.1)), (am 4, .inl (K.2.1, 160, .inl u14.2.2.1)), (am 5, .inl (K.2.2.1, 128, .inl u14.2.2.2.1)), (am 6, .inl (K.2.2.1, 128, .inl we)), (am 7, .inl (K.2.1, 6, .inl u14.2.2.2.2.1))]) (g_goV (pc := 14) hX (As := [.int (nI 0), .int (nI j)]) (stk := []) (wc := [(m, .inr (3, [.ref (am 0), .ref (am 1), .ref (am 2), .ref (am 3), .ref (am 4), .ref (am 5), .ref (am 6), .ref (am 7), .int rd, .int wr, .int vi])), (am 0, .inl (K.2.1, 2, .inl po)), (am 1, .inl (K.2.1, 2, .inl ca)), (am 2, .inl (K.2.1, 2, .inl go)), (am 3, .inl (K.2.1, 8, .inl le)), (am 4, .inl (K.2.1, 160, .inl pg)), (am 5, .inl (K.2.2.1, 128, .inl mk)), (am 6, .inl (K.2.2.1, 128, .inl we)), (am 7, .inl (K.2.1, 6, .inl co))]) (c_X3_touch l K m am po ca go le pg mk we co rd wr vi (sF U L) hM 0 (by omega) iU j hj) rfl rfl rfl gX3_access_X3_touch nX3_touchV rfl 0 rfl ⟨(Nat.le_of_ble_eq_true rfl), (Nat.le_of_ble_eq_true rfl)⟩ [0, 1, 2, 3, 4, 5, 6, 7, 8] rfl rfl rfl (Nat.le_of_ble_eq_true rfl) dX3_access_14 ⟨(Nat.le_of_ble_eq_true rfl), (Nat.le_of_ble_eq_true rfl)⟩) [0, 1, 2, 3, 4, 5, 6, 7, 8] [] [0, 1, 2, 3, 4, 5, 6, 7, 8] rfl rfl rfl (by decide) rfl (fun _ => rfl) (fun r u14 h14 => ?_)
    obtain ⟨rfl, hM14, hv14⟩ := h14
    refine g_top (y := (bI (tHolds U j))) rfl ?_
    rw [sF_0, sF_u0] at hM14
    rw [sF_0] at hv14
    obtain ⟨S14, hS14⟩ : ∃ z : TS, z = (tTouch U j).2 := ⟨_, rfl⟩
    rw [← hS14] at hM14
    have iS14 : tInv S14 := by rw [hS14]; exact (tTouch_inv hj iU).1
    have vS14 : ∀ p, (tTouch U j).1 = some p → p < 64 := (tTouch_inv hj iU).2
    refine g_ws (ws' := [(m, .inr (3, [.ref (am 0), .ref (am 1), .ref (am 2), .ref (am 3), .ref (am 4), .ref (am 5), .ref (am 6), .ref (am 7), .int rd, .int wr, .int (pI ((tTouch U j).1))])), (am 0, .inl (K.2.1, 2, .inl po)), (am 1, .inl (K.2.1, 2, .inl ca)), (am 2, .inl (K.2.1, 2, .inl u14.1)), (am 3, .inl (K.2.1, 8, .inl u14.2.1)), (am 4, .inl (K.2.1, 160, .inl u14.2.2.1)), (am 5, .inl (K.2.2.1, 128, .inl u14.2.2.2.1)), (am 6, .inl (K.2.2.1, 128, .inl we)), (am 7, .inl (K.2.1, 6, .inl u14.2.2.2.2.1))]) (by rw [hv14]) ?_
    refine g_istore (pc := 17) (lv' := [(4, .int (bI (tHolds U j))), (3, .int (nI 0)), (0, .ref m), (1, .int (nI j)), (2, .int (bI w))]) hX dX3_access_17 (by decide) rfl ?_
    refine g_aload_n (pc := 19) hX dX3_access_19 rfl 2 rfl ?_
    refine g_get (pc := 20) (C := RX3) (T := TX3) (N := 11) (ci := 3) (v := .int (pI ((tTouch U j).1))) hX inX3_access_X3 0 rfl rfl 10 (by decide) flX3_access_65 rfl rfl dX3_access_20 ?_
    refine g_istore (pc := 23) (lv' := [(5, .int (pI ((tTouch U j).1))), (4, .int (bI (tHolds U j))), (3, .int (nI 0)), (0, .ref m), (1, .int (nI j)), (2, .int (bI w))]) hX dX3_access_23 (by decide) rfl ?_
    refine g_iload (pc := 25) hX dX3_access_25 1 rfl ?_
    refine g_ifB_ne (pc := 27) (tgt := 45) hX dX3_access_27 (by decide) (fun c27 => ?_) (fun c27 => ?_)
    · refine g_aload_n (pc := 45) hX dX3_access_45 rfl 3 rfl ?_
      refine g_iconst (pc := 46) (v := (nI 0)) hX dX3_access_46 (by decide) ?_
      refine g_iload (pc := 47) hX dX3_access_47 0 rfl ?_
      refine g_ci (pc := 49) hX (wc := [(m, .inr (3, [.ref (am 0), .ref (am 1), .ref (am 2), .ref (am 3), .ref (am 4), .ref (am 5), .ref (am 6), .ref (am 7), .int rd, .int wr, .int (pI ((tTouch U j).1))])), (am 0, .inl (K.2.1, 2, .inl po)), (am 1, .inl (K.2.1, 2, .inl ca)), (am 2, .inl (K.2.1, 2, .inl u14.1)), (am 3, .inl (K.2.1, 8, .inl u14.2.1)), (am 4, .inl (K.2.1, 160, .inl u14.2.2.1)), (am 5, .inl (K.2.2.1, 128, .inl u14.2.2.2.1)), (am 6, .inl (K.2.2.1, 128, .inl we)), (am 7, .inl (K.2.1, 6, .inl u14.2.2.2.2.1))]) (wr := []) (Wd' := fun u49 => [(m, .inr (3, [.ref (am 0), .ref (am 1), .ref (am 2), .ref (am 3), .ref (am 4), .ref (am 5), .ref (am 6), .ref (am 7), .int rd, .int wr, .int (pI ((tTouch U j).1))])), (am 0, .inl (K.2.1, 2, .inl po)), (am 1, .inl (K.2.1, 2, .inl ca)), (am 2, .inl (K.2.1, 2, .inl u14.1)), (am 3, .inl (K.2.1, 8, .inl u14.2.1)), (am 4, .inl (K.2.1, 160, .inl u14.2.2.1)), (am 5, .inl (K.2.2.1, 128, .inl u14.2.2.2.1)), (am 6, .inl (K.2.2.1, 128, .inl u49.1)), (am 7, .inl (K.2.1, 6, .inl u49.2))]) (g_goV (pc := 49) hX (As := [.int (nI 0), .int (pI ((tTouch U j).1))]) (stk := []) (wc := [(m, .inr (3, [.ref (am 0), .ref (am 1), .ref (am 2), .ref (am 3), .ref (am 4), .ref (am 5), .ref (am 6), .ref (am 7), .int rd, .int wr, .int (pI ((tTouch U j).1))])), (am 0, .inl (K.2.1, 2, .inl po)), (am 1, .inl (K.2.1, 2, .inl ca)), (am 2, .inl (K.2.1, 2, .inl u14.1)), (am 3, .inl (K.2.1, 8, .inl u14.2.1)), (am 4, .inl (K.2.1, 160, .inl u14.2.2.1)), (am 5, .inl (K.2.2.1, 128, .inl u14.2.2.2.1)), (am 6, .inl (K.2.2.1, 128, .inl we)), (am 7, .inl (K.2.1, 6, .inl u14.2.2.2.2.1))]) (c_X3_dries l K m am po ca u14.1 u14.2.1 u14.2.2.1 u14.2.2.2.1 we u14.2.2.2.2.1 rd wr (pI ((tTouch U j).1)) (sF S14 L) hM14 0 (by omega) ((tTouch U j).1) vS14) rfl rfl rfl gX3_access_X3_dries nX3_driesV rfl 0 rfl ⟨(Nat.le_of_ble_eq_true rfl), (Nat.le_of_ble_eq_true rfl)⟩ [0, 1, 2, 3, 4, 5, 6, 7, 8] rfl rfl rfl (Nat.le_of_ble_eq_true rfl) dX3_access_49 ⟨(Nat.le_of_ble_eq_true rfl), (Nat.le_of_ble_eq_true rfl)⟩) [0, 1, 2, 3, 4, 5, 6, 7, 8] [] [0, 1, 2, 3, 4, 5, 6, 7, 8] rfl rfl rfl (by decide) rfl (fun _ => rfl) (fun r u49 h49 => ?_)
      obtain ⟨rfl, hM49⟩ := h49
      refine g_top (y := (bI ((tVic S14 ((tTouch U j).1)).1))) rfl ?_
      rw [sF_0, sF_u0] at hM49
      obtain ⟨S49, hS49⟩ : ∃ z : TS, z = (tVic S14 ((tTouch U j).1)).2 := ⟨_, rfl⟩
      rw [← hS49] at hM49
      have iS49 : tInv S49 := by rw [hS49]; exact tVic_inv iS14 _
      refine g_ifB_eq (pc := 52) (tgt := 63) hX dX3_access_52 (by decide) (fun c52 => ?_) (fun c52 => ?_)
      · have hf49 : S49 = S14 := by rw [hS49]; exact tVic_f c52
        refine g_aload_n (pc := 63) hX dX3_access_63 rfl 3 rfl ?_
        refine g_get (pc := 64) (C := RX3) (T := TX3) (N := 11) (ci := 3) (v := .ref (am 6)) hX inX3_access_X3 0 rfl rfl 6 (by decide) flX3_access_29 rfl rfl dX3_access_64 ?_
        refine g_iload_n (pc := 67) hX dX3_access_67 rfl 4 rfl ?_
        refine g_aload_n (pc := 68) hX dX3_access_68 rfl 3 rfl ?_
        refine g_get (pc := 69) (C := RX3) (T := TX3) (N := 11) (ci := 3) (v := .ref (am 6)) hX inX3_access_X3 0 rfl rfl 6 (by decide) flX3_access_29 rfl rfl dX3_access_69 ?_
        refine g_iload_n (pc := 72) hX dX3_access_72 rfl 4 rfl ?_
        refine g_zald (pc := 73) (v := (bI (S49.2.2.1.2 j))) hX 7 rfl (by omega) (by omega) (by have k := hM49.2.2.2.2.2.1 0 (by omega) j hj; rw [show 64 * 0 + j = j by omega] at k; exact k) dX3_access_73 ?_
        refine g_ifB_ne (pc := 74) (tgt := 81) hX dX3_access_74 (by decide) (fun c74 => ?_) (fun c74 => ?_)
        · refine g_iconst (pc := 81) (v := (nI 1)) hX dX3_access_81 (by decide) ?_
          refine g_goto (pc := 82) (tgt := 86) hX dX3_access_82 (by decide) ?_
          refine g_zast (pc := 86) (ws' := [(m, .inr (3, [.ref (am 0), .ref (am 1), .ref (am 2), .ref (am 3), .ref (am 4), .ref (am 5), .ref (am 6), .ref (am 7), .int rd, .int wr, .int (pI ((tTouch U j).1))])), (am 0, .inl (K.2.1, 2, .inl po)), (am 1, .inl (K.2.1, 2, .inl ca)), (am 2, .inl (K.2.1, 2, .inl u14.1)), (am 3, .inl (K.2.1, 8, .inl u14.2.1)), (am 4, .inl (K.2.1, 160, .inl u14.2.2.1)), (am 5, .inl (K.2.2.1, 128, .inl u14.2.2.2.1)), (am 6, .inl (K.2.2.1, 128, .inl (upd u49.1 j (nI 1)))), (am 7, .inl (K.2.1, 6, .inl u49.2))]) hX 7 rfl (by omega) (by omega) (by decide) rfl dX3_access_86 ?_
          obtain ⟨S87, hS87⟩ : ∃ z : TS, z = tDirty S49 j true := ⟨_, rfl⟩
          have hM87 : mR (sF S87 L) po ca u14.1 u14.2.1 u14.2.2.1 u14.2.2.2.1 (upd u49.1 j (nI 1)) u49.2 := by
            have k := hM49.2.2.2.2.2.1.set (t := 0) (p := j) (by omega) hj true
            rw [show 64 * 0 + j = j by omega] at k
            have k2 := mR_set (t := 0) (S := tDirty S49 j true) hM49 (by omega) rfl rfl (hM49.2.2.1 0 (by omega)) (fun _ _ => rfl) (hM49.row (S := S49) rfl) (hM49.mk (S := S49) rfl) k (hM49.2.2.2.2.2.2 0 (by omega)) (fun _ _ => rfl)
            rw [sF_u0] at k2
            rw [hS87]
            exact k2
          have iS87 : tInv S87 := by rw [hS87]; exact iS49
          have hf87 : S87 = S49 := by rw [hS87]; exact tDirty_same c74
          refine g_iload_n (pc := 87) hX dX3_access_87 rfl 2 rfl ?_
          have e1 : cAcc1 (U, L, rd, wr) j = (S14, L, rd, wr) := by rw [hS14]; rfl
          have e2 : cAcc2 (U, L, rd, wr) j = (0, (S14, L, rd, wr)) := by unfold cAcc2; rw [if_pos c27, e1]
          have e3 : cAcc3 (S14, L, rd, wr) (tTouch U j).1 = (S49, L, rd, wr) := by
            show (if (tVic S14 (tTouch U j).1).1 = true then cDown (S14, L, rd, wr) (tVic S14 (tTouch U j).1).2 (tTouch U j).1 else (S14, L, rd, wr)) = _
            rw [if_neg (by rw [c52]; decide), hf49]
          have e : cAccess (U, L, rd, wr) (nI j) w = (0, (S87, L, rd, wr)) := by
            unfold cAccess
            rw [if_pos (okPg_nI hj), nI_clamp (by omega)]
            unfold cAcc
            rw [e2]
            show (0, if w = true then (tDirty (cAcc3 (S14, L, rd, wr) (tTouch U j).1).1 j true, (cAcc3 (S14, L, rd, wr) (tTouch U j).1).2) else cAcc3 (S14, L, rd, wr) (tTouch U j).1) = _
            rw [e3]
            show (0, if w = true then (tDirty S49 j true, (L, rd, wr)) else (S49, (L, rd, wr))) = _
            rw [hf87, tDirty_same c74, ite_self]
          rw [e] at hret
          exact hret (u := (u14.1, u14.2.1, u14.2.2.1, u14.2.2.2.1, upd u49.1 j (nI 1), u49.2, (pI ((tTouch U j).1)))) dX3_access_88 (⟨rfl, hM87⟩) rfl
        · refine g_iload_n (pc := 77) hX dX3_access_77 rfl 5 rfl ?_
          refine g_ifB_eq (pc := 78) (tgt := 85) hX dX3_access_78 (by decide) (fun c78 => ?_) (fun c78 => ?_)
          · refine g_iconst (pc := 85) (v := (nI 0)) hX dX3_access_85 (by decide) ?_
            refine g_zast (pc := 86) (ws' := [(m, .inr (3, [.ref (am 0), .ref (am 1), .ref (am 2), .ref (am 3), .ref (am 4), .ref (am 5), .ref (am 6), .ref (am 7), .int rd, .int wr, .int (pI ((tTouch U j).1))])), (am 0, .inl (K.2.1, 2, .inl po)), (am 1, .inl (K.2.1, 2, .inl ca)), (am 2, .inl (K.2.1, 2, .inl u14.1)), (am 3, .inl (K.2.1, 8, .inl u14.2.1)), (am 4, .inl (K.2.1, 160, .inl u14.2.2.1)), (am 5, .inl (K.2.2.1, 128, .inl u14.2.2.2.1)), (am 6, .inl (K.2.2.1, 128, .inl (upd u49.1 j (nI 0)))), (am 7, .inl (K.2.1, 6, .inl u49.2))]) hX 7 rfl (by omega) (by omega) (by decide) rfl dX3_access_86 ?_
            obtain ⟨S87, hS87⟩ : ∃ z : TS, z = tDirty S49 j false := ⟨_, rfl⟩
            have hM87 : mR (sF S87 L) po ca u14.1 u14.2.1 u14.2.2.1 u14.2.2.2.1 (upd u49.1 j (nI 0)) u49.2 := by
              have k := hM49.2.2.2.2.2.1.set (t := 0) (p := j) (by omega) hj false
              rw [show 64 * 0 + j = j by omega] at k
              have k2 := mR_set (t := 0) (S := tDirty S49 j false) hM49 (by omega) rfl rfl (hM49.2.2.1 0 (by omega)) (fun _ _ => rfl) (hM49.row (S := S49) rfl) (hM49.mk (S := S49) rfl) k (hM49.2.2.2.2.2.2 0 (by omega)) (fun _ _ => rfl)
              rw [sF_u0] at k2
              rw [hS87]
              exact k2
            have iS87 : tInv S87 := by rw [hS87]; exact iS49
            have hf87 : S87 = S49 := by rw [hS87]; exact tDirty_same c74
            refine g_iload_n (pc := 87) hX dX3_access_87 rfl 2 rfl ?_
            have e1 : cAcc1 (U, L, rd, wr) j = (S14, L, rd, wr) := by rw [hS14]; rfl
            have e2 : cAcc2 (U, L, rd, wr) j = (0, (S14, L, rd, wr)) := by unfold cAcc2; rw [if_pos c27, e1]
            have e3 : cAcc3 (S14, L, rd, wr) (tTouch U j).1 = (S49, L, rd, wr) := by
              show (if (tVic S14 (tTouch U j).1).1 = true then cDown (S14, L, rd, wr) (tVic S14 (tTouch U j).1).2 (tTouch U j).1 else (S14, L, rd, wr)) = _
              rw [if_neg (by rw [c52]; decide), hf49]
            have e : cAccess (U, L, rd, wr) (nI j) w = (0, (S87, L, rd, wr)) := by
              unfold cAccess
              rw [if_pos (okPg_nI hj), nI_clamp (by omega)]
              unfold cAcc
              rw [e2]
              show (0, if w = true then (tDirty (cAcc3 (S14, L, rd, wr) (tTouch U j).1).1 j true, (cAcc3 (S14, L, rd, wr) (tTouch U j).1).2) else cAcc3 (S14, L, rd, wr) (tTouch U j).1) = _
              rw [e3]
              show (0, if w = true then (tDirty S49 j true, (L, rd, wr)) else (S49, (L, rd, wr))) = _
              rw [if_neg (by rw [c78]; decide), hf87]
            rw [e] at hret
            exact hret (u := (u14.1, u14.2.1, u14.2.2.1, u14.2.2.2.1, upd u49.1 j (nI 0), u49.2, (pI ((tTouch U j).1)))) dX3_access_88 (⟨rfl, hM87⟩) rfl
          · refine g_iconst (pc := 81) (v := (nI 1)) hX dX3_access_81 (by decide) ?_
            refine g_goto (pc := 82) (tgt := 86) hX dX3_access_82 (by decide) ?_
            refine g_zast (pc := 86) (ws' := [(m, .inr (3, [.ref (am 0), .ref (am 1), .ref (am 2), .ref (am 3), .ref (am 4), .ref (am 5), .ref (am 6), .ref (am 7), .int rd, .int wr, .int (pI ((tTouch U j).1))])), (am 0, .inl (K.2.1, 2, .inl po)), (am 1, .inl (K.2.1, 2, .inl ca)), (am 2, .inl (K.2.1, 2, .inl u14.1)), (am 3, .inl (K.2.1, 8, .inl u14.2.1)), (am 4, .inl (K.2.1, 160, .inl u14.2.2.1)), (am 5, .inl (K.2.2.1, 128, .inl u14.2.2.2.1)), (am 6, .inl (K.2.2.1, 128, .inl (upd u49.1 j (nI 1)))), (am 7, .inl (K.2.1, 6, .inl u49.2))]) hX 7 rfl (by omega) (by omega) (by decide) rfl dX3_access_86 ?_
            obtain ⟨S87, hS87⟩ : ∃ z : TS, z = tDirty S49 j true := ⟨_, rfl⟩
            have hM87 : mR (sF S87 L) po ca u14.1 u14.2.1 u14.2.2.1 u14.2.2.2.1 (upd u49.1 j (nI 1)) u49.2 := by
              have k := hM49.2.2.2.2.2.1.set (t := 0) (p := j) (by omega) hj true
              rw [show 64 * 0 + j = j by omega] at k
              have k2 := mR_set (t := 0) (S := tDirty S49 j true) hM49 (by omega) rfl rfl (hM49.2.2.1 0 (by omega)) (fun _ _ => rfl) (hM49.row (S := S49) rfl) (hM49.mk (S := S49) rfl) k (hM49.2.2.2.2.2.2 0 (by omega)) (fun _ _ => rfl)
              rw [sF_u0] at k2
              rw [hS87]
              exact k2
            have iS87 : tInv S87 := by rw [hS87]; exact iS49
            refine g_iload_n (pc := 87) hX dX3_access_87 rfl 2 rfl ?_
            have e1 : cAcc1 (U, L, rd, wr) j = (S14, L, rd, wr) := by rw [hS14]; rfl
            have e2 : cAcc2 (U, L, rd, wr) j = (0, (S14, L, rd, wr)) := by unfold cAcc2; rw [if_pos c27, e1]
            have e3 : cAcc3 (S14, L, rd, wr) (tTouch U j).1 = (S49, L, rd, wr) := by
              show (if (tVic S14 (tTouch U j).1).1 = true then cDown (S14, L, rd, wr) (tVic S14 (tTouch U j).1).2 (tTouch U j).1 else (S14, L, rd, wr)) = _
              rw [if_neg (by rw [c52]; decide), hf49]
            have e : cAccess (U, L, rd, wr) (nI j) w = (0, (S87, L, rd, wr)) := by
              unfold cAccess
              rw [if_pos (okPg_nI hj), nI_clamp (by omega)]
              unfold cAcc
              rw [e2]
              show (0, if w = true then (tDirty (cAcc3 (S14, L, rd, wr) (tTouch U j).1).1 j true, (cAcc3 (S14, L, rd, wr) (tTouch U j).1).2) else cAcc3 (S14, L, rd, wr) (tTouch U j).1) = _
              rw [e3]
              show (0, if w = true then (tDirty S49 j true, (L, rd, wr)) else (S49, (L, rd, wr))) = _
              rw [if_pos c78, hS87]
            rw [e] at hret
            exact hret (u := (u14.1, u14.2.1, u14.2.2.1, u14.2.2.2.1, upd u49.1 j (nI 1), u49.2, (pI ((tTouch U j).1)))) dX3_access_88 (⟨rfl, hM87⟩) rfl
      · obtain ⟨p, hp⟩ := tVic_t c52
        have hp64 : p < 64 := vS14 p hp
        refine g_lv (lv' := [(5, .int (nI p)), (4, .int (bI (tHolds U j))), (3, .int (nI 0)), (0, .ref m), (1, .int (nI j)), (2, .int (bI w))]) (by rw [hp]; rfl) ?_
        refine g_aload_n (pc := 55) hX dX3_access_55 rfl 3 rfl ?_
        refine g_iload (pc := 56) hX dX3_access_56 0 rfl ?_
        refine g_iconst (pc := 58) (v := (nI 1)) hX dX3_access_58 (by decide) ?_
        refine g_top (y := (bI true)) (by decide) ?_
        refine g_ci (pc := 59) hX (wc := [(m, .inr (3, [.ref (am 0), .ref (am 1), .ref (am 2), .ref (am 3), .ref (am 4), .ref (am 5), .ref (am 6), .ref (am 7), .int rd, .int wr, .int (pI ((tTouch U j).1))])), (am 0, .inl (K.2.1, 2, .inl po)), (am 1, .inl (K.2.1, 2, .inl ca)), (am 2, .inl (K.2.1, 2, .inl u14.1)), (am 3, .inl (K.2.1, 8, .inl u14.2.1)), (am 4, .inl (K.2.1, 160, .inl u14.2.2.1)), (am 5, .inl (K.2.2.1, 128, .inl u14.2.2.2.1)), (am 6, .inl (K.2.2.1, 128, .inl u49.1)), (am 7, .inl (K.2.1, 6, .inl u49.2))]) (wr := []) (Wd' := fun u59 => [(m, .inr (3, [.ref (am 0), .ref (am 1), .ref (am 2), .ref (am 3), .ref (am 4), .ref (am 5), .ref (am 6), .ref (am 7), .int ((cAsk (S49, L, rd, wr) p true).2.2.2.1), .int ((cAsk (S49, L, rd, wr) p true).2.2.2.2), .int u59.2.2.2.2.2.2])), (am 0, .inl (K.2.1, 2, .inl po)), (am 1, .inl (K.2.1, 2, .inl ca)), (am 2, .inl (K.2.1, 2, .inl u59.1)), (am 3, .inl (K.2.1, 8, .inl u59.2.1)), (am 4, .inl (K.2.1, 160, .inl u59.2.2.1)), (am 5, .inl (K.2.2.1, 128, .inl u59.2.2.2.1)), (am 6, .inl (K.2.2.1, 128, .inl u59.2.2.2.2.1)), (am 7, .inl (K.2.1, 6, .inl u59.2.2.2.2.2.1))]) (g_goV (pc := 59) hX (As := [.int (nI p), .int (bI true)]) (stk := []) (wc := [(m, .inr (3, [.ref (am 0), .ref (am 1), .ref (am 2), .ref (am 3), .ref (am 4), .ref (am 5), .ref (am 6), .ref (am 7), .int rd, .int wr, .int (pI ((tTouch U j).1))])), (am 0, .inl (K.2.1, 2, .inl po)), (am 1, .inl (K.2.1, 2, .inl ca)), (am 2, .inl (K.2.1, 2, .inl u14.1)), (am 3, .inl (K.2.1, 8, .inl u14.2.1)), (am 4, .inl (K.2.1, 160, .inl u14.2.2.1)), (am 5, .inl (K.2.2.1, 128, .inl u14.2.2.2.1)), (am 6, .inl (K.2.2.1, 128, .inl u49.1)), (am 7, .inl (K.2.1, 6, .inl u49.2))]) (c_X3_askLower l K m am po ca u14.1 u14.2.1 u14.2.2.1 u14.2.2.2.1 u49.1 u49.2 rd wr (pI ((tTouch U j).1)) S49 L hM49 iS49 iL p hp64 true) rfl rfl rfl gX3_access_X3_askLower nX3_askLowerV rfl 0 rfl ⟨(Nat.le_of_ble_eq_true rfl), (Nat.le_of_ble_eq_true rfl)⟩ [0, 1, 2, 3, 4, 5, 6, 7, 8] rfl rfl rfl (Nat.le_of_ble_eq_true rfl) dX3_access_59 ⟨(Nat.le_of_ble_eq_true rfl), (Nat.le_of_ble_eq_true rfl)⟩) [0, 1, 2, 3, 4, 5, 6, 7, 8] [] [0, 1, 2, 3, 4, 5, 6, 7, 8] rfl rfl rfl (by decide) rfl (fun _ => rfl) (fun r u59 h59 => ?_)
        obtain ⟨rfl, hM59, iS59_⟩ := h59
        obtain ⟨S59, hS59⟩ : ∃ z : TS, z = (cAsk (S49, L, rd, wr) p true).2.2.1 := ⟨_, rfl⟩
        obtain ⟨r59, hr59⟩ : ∃ z : Int32, z = (cAsk (S49, L, rd, wr) p true).2.2.2.1 := ⟨_, rfl⟩
        obtain ⟨w59, hw59⟩ : ∃ z : Int32, z = (cAsk (S49, L, rd, wr) p true).2.2.2.2 := ⟨_, rfl⟩
        refine g_ws (ws' := [(m, .inr (3, [.ref (am 0), .ref (am 1), .ref (am 2), .ref (am 3), .ref (am 4), .ref (am 5), .ref (am 6), .ref (am 7), .int r59, .int w59, .int u59.2.2.2.2.2.2])), (am 0, .inl (K.2.1, 2, .inl po)), (am 1, .inl (K.2.1, 2, .inl ca)), (am 2, .inl (K.2.1, 2, .inl u59.1)), (am 3, .inl (K.2.1, 8, .inl u59.2.1)), (am 4, .inl (K.2.1, 160, .inl u59.2.2.1)), (am 5, .inl (K.2.2.1, 128, .inl u59.2.2.2.1)), (am 6, .inl (K.2.2.1, 128, .inl u59.2.2.2.2.1)), (am 7, .inl (K.2.1, 6, .inl u59.2.2.2.2.2.1))]) (by subst hr59 hw59; rfl) ?_
        rw [← hS59] at hM59 iS59_
        refine g_pop (pc := 62) hX dX3_access_62 rfl ?_
        refine g_aload_n (pc := 63) hX dX3_access_63 rfl 3 rfl ?_
        refine g_get (pc := 64) (C := RX3) (T := TX3) (N := 11) (ci := 3) (v := .ref (am 6)) hX inX3_access_X3 0 rfl rfl 6 (by decide) flX3_access_29 rfl rfl dX3_access_64 ?_
        refine g_iload_n (pc := 67) hX dX3_access_67 rfl 4 rfl ?_
        refine g_aload_n (pc := 68) hX dX3_access_68 rfl 3 rfl ?_
        refine g_get (pc := 69) (C := RX3) (T := TX3) (N := 11) (ci := 3) (v := .ref (am 6)) hX inX3_access_X3 0 rfl rfl 6 (by decide) flX3_access_29 rfl rfl dX3_access_69 ?_
        refine g_iload_n (pc := 72) hX dX3_access_72 rfl 4 rfl ?_
        refine g_zald (pc := 73) (v := (bI (S49.2.2.1.2 j))) hX 7 rfl (by omega) (by omega) (by have k := hM59.2.2.2.2.2.1 0 (by omega) j hj; rw [show 64 * 0 + j = j by omega] at k; exact k) dX3_access_73 ?_
        refine g_ifB_ne (pc := 74) (tgt := 81) hX dX3_access_74 (by decide) (fun c74 => ?_) (fun c74 => ?_)
        · refine g_iconst (pc := 81) (v := (nI 1)) hX dX3_access_81 (by decide) ?_
          refine g_goto (pc := 82) (tgt := 86) hX dX3_access_82 (by decide) ?_
          refine g_zast (pc := 86) (ws' := [(m, .inr (3, [.ref (am 0), .ref (am 1), .ref (am 2), .ref (am 3), .ref (am 4), .ref (am 5), .ref (am 6), .ref (am 7), .int r59, .int w59, .int u59.2.2.2.2.2.2])), (am 0, .inl (K.2.1, 2, .inl po)), (am 1, .inl (K.2.1, 2, .inl ca)), (am 2, .inl (K.2.1, 2, .inl u59.1)), (am 3, .inl (K.2.1, 8, .inl u59.2.1)), (am 4, .inl (K.2.1, 160, .inl u59.2.2.1)), (am 5, .inl (K.2.2.1, 128, .inl u59.2.2.2.1)), (am 6, .inl (K.2.2.1, 128, .inl (upd u59.2.2.2.2.1 j (nI 1)))), (am 7, .inl (K.2.1, 6, .inl u59.2.2.2.2.2.1))]) hX 7 rfl (by omega) (by omega) (by decide) rfl dX3_access_86 ?_
          obtain ⟨S87, hS87⟩ : ∃ z : TS, z = tDirty S49 j true := ⟨_, rfl⟩
          have hM87 : mR (sF S87 S59) po ca u59.1 u59.2.1 u59.2.2.1 u59.2.2.2.1 (upd u59.2.2.2.2.1 j (nI 1)) u59.2.2.2.2.2.1 := by
            have k := hM59.2.2.2.2.2.1.set (t := 0) (p := j) (by omega) hj true
            rw [show 64 * 0 + j = j by omega] at k
            have k2 := mR_set (t := 0) (S := tDirty S49 j true) hM59 (by omega) rfl rfl (hM59.2.2.1 0 (by omega)) (fun _ _ => rfl) (hM59.row (S := S49) rfl) (hM59.mk (S := S49) rfl) k (hM59.2.2.2.2.2.2 0 (by omega)) (fun _ _ => rfl)
            rw [sF_u0] at k2
            rw [hS87]
            exact k2
          have iS87 : tInv S87 := by rw [hS87]; exact iS49
          have hf87 : S87 = S49 := by rw [hS87]; exact tDirty_same c74
          refine g_iload_n (pc := 87) hX dX3_access_87 rfl 2 rfl ?_
          have e1 : cAcc1 (U, L, rd, wr) j = (S14, L, rd, wr) := by rw [hS14]; rfl
          have e2 : cAcc2 (U, L, rd, wr) j = (0, (S14, L, rd, wr)) := by unfold cAcc2; rw [if_pos c27, e1]
          have e3 : cAcc3 (S14, L, rd, wr) (tTouch U j).1 = (S49, S59, r59, w59) := by
            show (if (tVic S14 (tTouch U j).1).1 = true then cDown (S14, L, rd, wr) (tVic S14 (tTouch U j).1).2 (tTouch U j).1 else (S14, L, rd, wr)) = _
            rw [if_pos c52, ← hS49, hp]
            subst hS59 hr59 hw59
            rfl
          have e : cAccess (U, L, rd, wr) (nI j) w = (0, (S87, S59, r59, w59)) := by
            unfold cAccess
            rw [if_pos (okPg_nI hj), nI_clamp (by omega)]
            unfold cAcc
            rw [e2]
            show (0, if w = true then (tDirty (cAcc3 (S14, L, rd, wr) (tTouch U j).1).1 j true, (cAcc3 (S14, L, rd, wr) (tTouch U j).1).2) else cAcc3 (S14, L, rd, wr) (tTouch U j).1) = _
            rw [e3]
            show (0, if w = true then (tDirty S49 j true, (S59, r59, w59)) else (S49, (S59, r59, w59))) = _
            rw [hf87, tDirty_same c74, ite_self]
          rw [e] at hret
          exact hret (u := (u59.1, u59.2.1, u59.2.2.1, u59.2.2.2.1, upd u59.2.2.2.2.1 j (nI 1), u59.2.2.2.2.2.1, u59.2.2.2.2.2.2)) dX3_access_88 (⟨rfl, hM87⟩) rfl
        · refine g_iload_n (pc := 77) hX dX3_access_77 rfl 5 rfl ?_
          refine g_ifB_eq (pc := 78) (tgt := 85) hX dX3_access_78 (by decide) (fun c78 => ?_) (fun c78 => ?_)
          · refine g_iconst (pc := 85) (v := (nI 0)) hX dX3_access_85 (by decide) ?_
            refine g_zast (pc := 86) (ws' := [(m, .inr (3, [.ref (am 0), .ref (am 1), .ref (am 2), .ref (am 3), .ref (am 4), .ref (am 5), .ref (am 6), .ref (am 7), .int r59, .int w59, .int u59.2.2.2.2.2.2])), (am 0, .inl (K.2.1, 2, .inl po)), (am 1, .inl (K.2.1, 2, .inl ca)), (am 2, .inl (K.2.1, 2, .inl u59.1)), (am 3, .inl (K.2.1, 8, .inl u59.2.1)), (am 4, .inl (K.2.1, 160, .inl u59.2.2.1)), (am 5, .inl (K.2.2.1, 128, .inl u59.2.2.2.1)), (am 6, .inl (K.2.2.1, 128, .inl (upd u59.2.2.2.2.1 j (nI 0)))), (am 7, .inl (K.2.1, 6, .inl u59.2.2.2.2.2.1))]) hX 7 rfl (by omega) (by omega) (by decide) rfl dX3_access_86 ?_
            obtain ⟨S87, hS87⟩ : ∃ z : TS, z = tDirty S49 j false := ⟨_, rfl⟩
            have hM87 : mR (sF S87 S59) po ca u59.1 u59.2.1 u59.2.2.1 u59.2.2.2.1 (upd u59.2.2.2.2.1 j (nI 0)) u59.2.2.2.2.2.1 := by
              have k := hM59.2.2.2.2.2.1.set (t := 0) (p := j) (by omega) hj false
              rw [show 64 * 0 + j = j by omega] at k
              have k2 := mR_set (t := 0) (S := tDirty S49 j false) hM59 (by omega) rfl rfl (hM59.2.2.1 0 (by omega)) (fun _ _ => rfl) (hM59.row (S := S49) rfl) (hM59.mk (S := S49) rfl) k (hM59.2.2.2.2.2.2 0 (by omega)) (fun _ _ => rfl)
              rw [sF_u0] at k2
              rw [hS87]
              exact k2
            have iS87 : tInv S87 := by rw [hS87]; exact iS49
            have hf87 : S87 = S49 := by rw [hS87]; exact tDirty_same c74
            refine g_iload_n (pc := 87) hX dX3_access_87 rfl 2 rfl ?_
            have e1 : cAcc1 (U, L, rd, wr) j = (S14, L, rd, wr) := by rw [hS14]; rfl
            have e2 : cAcc2 (U, L, rd, wr) j = (0, (S14, L, rd, wr)) := by unfold cAcc2; rw [if_pos c27, e1]
            have e3 : cAcc3 (S14, L, rd, wr) (tTouch U j).1 = (S49, S59, r59, w59) := by
              show (if (tVic S14 (tTouch U j).1).1 = true then cDown (S14, L, rd, wr) (tVic S14 (tTouch U j).1).2 (tTouch U j).1 else (S14, L, rd, wr)) = _
              rw [if_pos c52, ← hS49, hp]
              subst hS59 hr59 hw59
              rfl
            have e : cAccess (U, L, rd, wr) (nI j) w = (0, (S87, S59, r59, w59)) := by
              unfold cAccess
              rw [if_pos (okPg_nI hj), nI_clamp (by omega)]
              unfold cAcc
              rw [e2]
              show (0, if w = true then (tDirty (cAcc3 (S14, L, rd, wr) (tTouch U j).1).1 j true, (cAcc3 (S14, L, rd, wr) (tTouch U j).1).2) else cAcc3 (S14, L, rd, wr) (tTouch U j).1) = _
              rw [e3]
              show (0, if w = true then (tDirty S49 j true, (S59, r59, w59)) else (S49, (S59, r59, w59))) = _
              rw [if_neg (by rw [c78]; decide), hf87]
            rw [e] at hret
            exact hret (u := (u59.1, u59.2.1, u59.2.2.1, u59.2.2.2.1, upd u59.2.2.2.2.1 j (nI 0), u59.2.2.2.2.2.1, u59.2.2.2.2.2.2)) dX3_access_88 (⟨rfl, hM87⟩) rfl
          · refine g_iconst (pc := 81) (v := (nI 1)) hX dX3_access_81 (by decide) ?_
            refine g_goto (pc := 82) (tgt := 86) hX dX3_access_82 (by decide) ?_
            refine g_zast (pc := 86) (ws' := [(m, .inr (3, [.ref (am 0), .ref (am 1), .ref (am 2), .ref (am 3), .ref (am 4), .ref (am 5), .ref (am 6), .ref (am 7), .int r59, .int w59, .int u59.2.2.2.2.2.2])), (am 0, .inl (K.2.1, 2, .inl po)), (am 1, .inl (K.2.1, 2, .inl ca)), (am 2, .inl (K.2.1, 2, .inl u59.1)), (am 3, .inl (K.2.1, 8, .inl u59.2.1)), (am 4, .inl (K.2.1, 160, .inl u59.2.2.1)), (am 5, .inl (K.2.2.1, 128, .inl u59.2.2.2.1)), (am 6, .inl (K.2.2.1, 128, .inl (upd u59.2.2.2.2.1 j (nI 1)))), (am 7, .inl (K.2.1, 6, .inl u59.2.2.2.2.2.1))]) hX 7 rfl (by omega) (by omega) (by decide) rfl dX3_access_86 ?_
            obtain ⟨S87, hS87⟩ : ∃ z : TS, z = tDirty S49 j true := ⟨_, rfl⟩
            have hM87 : mR (sF S87 S59) po ca u59.1 u59.2.1 u59.2.2.1 u59.2.2.2.1 (upd u59.2.2.2.2.1 j (nI 1)) u59.2.2.2.2.2.1 := by
              have k := hM59.2.2.2.2.2.1.set (t := 0) (p := j) (by omega) hj true
              rw [show 64 * 0 + j = j by omega] at k
              have k2 := mR_set (t := 0) (S := tDirty S49 j true) hM59 (by omega) rfl rfl (hM59.2.2.1 0 (by omega)) (fun _ _ => rfl) (hM59.row (S := S49) rfl) (hM59.mk (S := S49) rfl) k (hM59.2.2.2.2.2.2 0 (by omega)) (fun _ _ => rfl)
              rw [sF_u0] at k2
              rw [hS87]
              exact k2
            have iS87 : tInv S87 := by rw [hS87]; exact iS49
            refine g_iload_n (pc := 87) hX dX3_access_87 rfl 2 rfl ?_
            have e1 : cAcc1 (U, L, rd, wr) j = (S14, L, rd, wr) := by rw [hS14]; rfl
            have e2 : cAcc2 (U, L, rd, wr) j = (0, (S14, L, rd, wr)) := by unfold cAcc2; rw [if_pos c27, e1]
            have e3 : cAcc3 (S14, L, rd, wr) (tTouch U j).1 = (S49, S59, r59, w59) := by
              show (if (tVic S14 (tTouch U j).1).1 = true then cDown (S14, L, rd, wr) (tVic S14 (tTouch U j).1).2 (tTouch U j).1 else (S14, L, rd, wr)) = _
              rw [if_pos c52, ← hS49, hp]
              subst hS59 hr59 hw59
              rfl
            have e : cAccess (U, L, rd, wr) (nI j) w = (0, (S87, S59, r59, w59)) := by
              unfold cAccess
              rw [if_pos (okPg_nI hj), nI_clamp (by omega)]
              unfold cAcc
              rw [e2]
              show (0, if w = true then (tDirty (cAcc3 (S14, L, rd, wr) (tTouch U j).1).1 j true, (cAcc3 (S14, L, rd, wr) (tTouch U j).1).2) else cAcc3 (S14, L, rd, wr) (tTouch U j).1) = _
              rw [e3]
              show (0, if w = true then (tDirty S49 j true, (S59, r59, w59)) else (S49, (S59, r59, w59))) = _
              rw [if_pos c78, hS87]
            rw [e] at hret
            exact hret (u := (u59.1, u59.2.1, u59.2.2.1, u59.2.2.2.1, upd u59.2.2.2.2.1 j (nI 1), u59.2.2.2.2.2.1, u59.2.2.2.2.2.2)) dX3_access_88 (⟨rfl, hM87⟩) rfl
    · refine g_aload_n (pc := 30) hX dX3_access_30 rfl 3 rfl ?_
      refine g_iload_n (pc := 31) hX dX3_access_31 rfl 4 rfl ?_
      refine g_iconst (pc := 32) (v := (nI 0)) hX dX3_access_32 (by decide) ?_
      refine g_top (y := (bI false)) (by decide) ?_
      refine g_ci (pc := 33) hX (wc := [(m, .inr (3, [.ref (am 0), .ref (am 1), .ref (am 2), .ref (am 3), .ref (am 4), .ref (am 5), .ref (am 6), .ref (am 7), .int rd, .int wr, .int (pI ((tTouch U j).1))])), (am 0, .inl (K.2.1, 2, .inl po)), (am 1, .inl (K.2.1, 2, .inl ca)), (am 2, .inl (K.2.1, 2, .inl u14.1)), (am 3, .inl (K.2.1, 8, .inl u14.2.1)), (am 4, .inl (K.2.1, 160, .inl u14.2.2.1)), (am 5, .inl (K.2.2.1, 128, .inl u14.2.2.2.1)), (am 6, .inl (K.2.2.1, 128, .inl we)), (am 7, .inl (K.2.1, 6, .inl u14.2.2.2.2.1))]) (wr := []) (Wd' := fun u33 => [(m, .inr (3, [.ref (am 0), .ref (am 1), .ref (am 2), .ref (am 3), .ref (am 4), .ref (am 5), .ref (am 6), .ref (am 7), .int ((cAsk (S14, L, rd, wr) j false).2.2.2.1), .int ((cAsk (S14, L, rd, wr) j false).2.2.2.2), .int u33.2.2.2.2.2.2])), (am 0, .inl (K.2.1, 2, .inl po)), (am 1, .inl (K.2.1, 2, .inl ca)), (am 2, .inl (K.2.1, 2, .inl u33.1)), (am 3, .inl (K.2.1, 8, .inl u33.2.1)), (am 4, .inl (K.2.1, 160, .inl u33.2.2.1)), (am 5, .inl (K.2.2.1, 128, .inl u33.2.2.2.1)), (am 6, .inl (K.2.2.1, 128, .inl u33.2.2.2.2.1)), (am 7, .inl (K.2.1, 6, .inl u33.2.2.2.2.2.1))]) (g_goV (pc := 33) hX (As := [.int (nI j), .int (bI false)]) (stk := []) (wc := [(m, .inr (3, [.ref (am 0), .ref (am 1), .ref (am 2), .ref (am 3), .ref (am 4), .ref (am 5), .ref (am 6), .ref (am 7), .int rd, .int wr, .int (pI ((tTouch U j).1))])), (am 0, .inl (K.2.1, 2, .inl po)), (am 1, .inl (K.2.1, 2, .inl ca)), (am 2, .inl (K.2.1, 2, .inl u14.1)), (am 3, .inl (K.2.1, 8, .inl u14.2.1)), (am 4, .inl (K.2.1, 160, .inl u14.2.2.1)), (am 5, .inl (K.2.2.1, 128, .inl u14.2.2.2.1)), (am 6, .inl (K.2.2.1, 128, .inl we)), (am 7, .inl (K.2.1, 6, .inl u14.2.2.2.2.1))]) (c_X3_askLower l K m am po ca u14.1 u14.2.1 u14.2.2.1 u14.2.2.2.1 we u14.2.2.2.2.1 rd wr (pI ((tTouch U j).1)) S14 L hM14 iS14 iL j hj false) rfl rfl rfl gX3_access_X3_askLower nX3_askLowerV rfl 0 rfl ⟨(Nat.le_of_ble_eq_true rfl), (Nat.le_of_ble_eq_true rfl)⟩ [0, 1, 2, 3, 4, 5, 6, 7, 8] rfl rfl rfl (Nat.le_of_ble_eq_true rfl) dX3_access_33 ⟨(Nat.le_of_ble_eq_true rfl), (Nat.le_of_ble_eq_true rfl)⟩) [0, 1, 2, 3, 4, 5, 6, 7, 8] [] [0, 1, 2, 3, 4, 5, 6, 7, 8] rfl rfl rfl (by decide) rfl (fun _ => rfl) (fun r u33 h33 => ?_)
      obtain ⟨rfl, hM33, iS33_⟩ := h33
      obtain ⟨S33, hS33⟩ : ∃ z : TS, z = (cAsk (S14, L, rd, wr) j false).2.2.1 := ⟨_, rfl⟩
      obtain ⟨r33, hr33⟩ : ∃ z : Int32, z = (cAsk (S14, L, rd, wr) j false).2.2.2.1 := ⟨_, rfl⟩
      obtain ⟨w33, hw33⟩ : ∃ z : Int32, z = (cAsk (S14, L, rd, wr) j false).2.2.2.2 := ⟨_, rfl⟩
      refine g_ws (ws' := [(m, .inr (3, [.ref (am 0), .ref (am 1), .ref (am 2), .ref (am 3), .ref (am 4), .ref (am 5), .ref (am 6), .ref (am 7), .int r33, .int w33, .int u33.2.2.2.2.2.2])), (am 0, .inl (K.2.1, 2, .inl po)), (am 1, .inl (K.2.1, 2, .inl ca)), (am 2, .inl (K.2.1, 2, .inl u33.1)), (am 3, .inl (K.2.1, 8, .inl u33.2.1)), (am 4, .inl (K.2.1, 160, .inl u33.2.2.1)), (am 5, .inl (K.2.2.1, 128, .inl u33.2.2.2.1)), (am 6, .inl (K.2.2.1, 128, .inl u33.2.2.2.2.1)), (am 7, .inl (K.2.1, 6, .inl u33.2.2.2.2.2.1))]) (by subst hr33 hw33; rfl) ?_
      rw [← hS33] at hM33 iS33_
      refine g_ifB_eq (pc := 36) (tgt := 43) hX dX3_access_36 (by decide) (fun c36 => ?_) (fun c36 => ?_)
      · refine g_iconst (pc := 43) (v := (nI 2)) hX dX3_access_43 (by decide) ?_
        refine g_istore_n (pc := 44) (lv' := [(3, .int (nI 2)), (5, .int (pI ((tTouch U j).1))), (4, .int (bI (tHolds U j))), (0, .ref m), (1, .int (nI j)), (2, .int (bI w))]) hX dX3_access_44 rfl (by decide) rfl ?_
        refine g_aload_n (pc := 45) hX dX3_access_45 rfl 3 rfl ?_
        refine g_iconst (pc := 46) (v := (nI 0)) hX dX3_access_46 (by decide) ?_
        refine g_iload (pc := 47) hX dX3_access_47 1 rfl ?_
        refine g_ci (pc := 49) hX (wc := [(m, .inr (3, [.ref (am 0), .ref (am 1), .ref (am 2), .ref (am 3), .ref (am 4), .ref (am 5), .ref (am 6), .ref (am 7), .int r33, .int w33, .int u33.2.2.2.2.2.2])), (am 0, .inl (K.2.1, 2, .inl po)), (am 1, .inl (K.2.1, 2, .inl ca)), (am 2, .inl (K.2.1, 2, .inl u33.1)), (am 3, .inl (K.2.1, 8, .inl u33.2.1)), (am 4, .inl (K.2.1, 160, .inl u33.2.2.1)), (am 5, .inl (K.2.2.1, 128, .inl u33.2.2.2.1)), (am 6, .inl (K.2.2.1, 128, .inl u33.2.2.2.2.1)), (am 7, .inl (K.2.1, 6, .inl u33.2.2.2.2.2.1))]) (wr := []) (Wd' := fun u49 => [(m, .inr (3, [.ref (am 0), .ref (am 1), .ref (am 2), .ref (am 3), .ref (am 4), .ref (am 5), .ref (am 6), .ref (am 7), .int r33, .int w33, .int u33.2.2.2.2.2.2])), (am 0, .inl (K.2.1, 2, .inl po)), (am 1, .inl (K.2.1, 2, .inl ca)), (am 2, .inl (K.2.1, 2, .inl u33.1)), (am 3, .inl (K.2.1, 8, .inl u33.2.1)), (am 4, .inl (K.2.1, 160, .inl u33.2.2.1)), (am 5, .inl (K.2.2.1, 128, .inl u33.2.2.2.1)), (am 6, .inl (K.2.2.1, 128, .inl u49.1)), (am 7, .inl (K.2.1, 6, .inl u49.2))]) (g_goV (pc := 49) hX (As := [.int (nI 0), .int (pI ((tTouch U j).1))]) (stk := []) (wc := [(m, .inr (3, [.ref (am 0), .ref (am 1), .ref (am 2), .ref (am 3), .ref (am 4), .ref (am 5), .ref (am 6), .ref (am 7), .int r33, .int w33, .int u33.2.2.2.2.2.2])), (am 0, .inl (K.2.1, 2, .inl po)), (am 1, .inl (K.2.1, 2, .inl ca)), (am 2, .inl (K.2.1, 2, .inl u33.1)), (am 3, .inl (K.2.1, 8, .inl u33.2.1)), (am 4, .inl (K.2.1, 160, .inl u33.2.2.1)), (am 5, .inl (K.2.2.1, 128, .inl u33.2.2.2.1)), (am 6, .inl (K.2.2.1, 128, .inl u33.2.2.2.2.1)), (am 7, .inl (K.2.1, 6, .inl u33.2.2.2.2.2.1))]) (c_X3_dries l K m am po ca u33.1 u33.2.1 u33.2.2.1 u33.2.2.2.1 u33.2.2.2.2.1 u33.2.2.2.2.2.1 r33 w33 u33.2.2.2.2.2.2 (sF S14 S33) hM33 0 (by omega) ((tTouch U j).1) vS14) rfl rfl rfl gX3_access_X3_dries nX3_driesV rfl 0 rfl ⟨(Nat.le_of_ble_eq_true rfl), (Nat.le_of_ble_eq_true rfl)⟩ [0, 1, 2, 3, 4, 5, 6, 7, 8] rfl rfl rfl (Nat.le_of_ble_eq_true rfl) dX3_access_49 ⟨(Nat.le_of_ble_eq_true rfl), (Nat.le_of_ble_eq_true rfl)⟩) [0, 1, 2, 3, 4, 5, 6, 7, 8] [] [0, 1, 2, 3, 4, 5, 6, 7, 8] rfl rfl rfl (by decide) rfl (fun _ => rfl) (fun r u49 h49 => ?_)
        obtain ⟨rfl, hM49⟩ := h49
        refine g_top (y := (bI ((tVic S14 ((tTouch U j).1)).1))) rfl ?_
        rw [sF_0, sF_u0] at hM49
        obtain ⟨S49, hS49⟩ : ∃ z : TS, z = (tVic S14 ((tTouch U j).1)).2 := ⟨_, rfl⟩
        rw [← hS49] at hM49
        have iS49 : tInv S49 := by rw [hS49]; exact tVic_inv iS14 _
        refine g_ifB_eq (pc := 52) (tgt := 63) hX dX3_access_52 (by decide) (fun c52 => ?_) (fun c52 => ?_)
        · have hf49 : S49 = S14 := by rw [hS49]; exact tVic_f c52
          refine g_aload_n (pc := 63) hX dX3_access_63 rfl 3 rfl ?_
          refine g_get (pc := 64) (C := RX3) (T := TX3) (N := 11) (ci := 3) (v := .ref (am 6)) hX inX3_access_X3 0 rfl rfl 6 (by decide) flX3_access_29 rfl rfl dX3_access_64 ?_
          refine g_iload_n (pc := 67) hX dX3_access_67 rfl 4 rfl ?_
          refine g_aload_n (pc := 68) hX dX3_access_68 rfl 3 rfl ?_
          refine g_get (pc := 69) (C := RX3) (T := TX3) (N := 11) (ci := 3) (v := .ref (am 6)) hX inX3_access_X3 0 rfl rfl 6 (by decide) flX3_access_29 rfl rfl dX3_access_69 ?_
          refine g_iload_n (pc := 72) hX dX3_access_72 rfl 4 rfl ?_
          refine g_zald (pc := 73) (v := (bI (S49.2.2.1.2 j))) hX 7 rfl (by omega) (by omega) (by have k := hM49.2.2.2.2.2.1 0 (by omega) j hj; rw [show 64 * 0 + j = j by omega] at k; exact k) dX3_access_73 ?_
          refine g_ifB_ne (pc := 74) (tgt := 81) hX dX3_access_74 (by decide) (fun c74 => ?_) (fun c74 => ?_)
          · refine g_iconst (pc := 81) (v := (nI 1)) hX dX3_access_81 (by decide) ?_
            refine g_goto (pc := 82) (tgt := 86) hX dX3_access_82 (by decide) ?_
            refine g_zast (pc := 86) (ws' := [(m, .inr (3, [.ref (am 0), .ref (am 1), .ref (am 2), .ref (am 3), .ref (am 4), .ref (am 5), .ref (am 6), .ref (am 7), .int r33, .int w33, .int u33.2.2.2.2.2.2])), (am 0, .inl (K.2.1, 2, .inl po)), (am 1, .inl (K.2.1, 2, .inl ca)), (am 2, .inl (K.2.1, 2, .inl u33.1)), (am 3, .inl (K.2.1, 8, .inl u33.2.1)), (am 4, .inl (K.2.1, 160, .inl u33.2.2.1)), (am 5, .inl (K.2.2.1, 128, .inl u33.2.2.2.1)), (am 6, .inl (K.2.2.1, 128, .inl (upd u49.1 j (nI 1)))), (am 7, .inl (K.2.1, 6, .inl u49.2))]) hX 7 rfl (by omega) (by omega) (by decide) rfl dX3_access_86 ?_
            obtain ⟨S87, hS87⟩ : ∃ z : TS, z = tDirty S49 j true := ⟨_, rfl⟩
            have hM87 : mR (sF S87 S33) po ca u33.1 u33.2.1 u33.2.2.1 u33.2.2.2.1 (upd u49.1 j (nI 1)) u49.2 := by
              have k := hM49.2.2.2.2.2.1.set (t := 0) (p := j) (by omega) hj true
              rw [show 64 * 0 + j = j by omega] at k
              have k2 := mR_set (t := 0) (S := tDirty S49 j true) hM49 (by omega) rfl rfl (hM49.2.2.1 0 (by omega)) (fun _ _ => rfl) (hM49.row (S := S49) rfl) (hM49.mk (S := S49) rfl) k (hM49.2.2.2.2.2.2 0 (by omega)) (fun _ _ => rfl)
              rw [sF_u0] at k2
              rw [hS87]
              exact k2
            have iS87 : tInv S87 := by rw [hS87]; exact iS49
            have hf87 : S87 = S49 := by rw [hS87]; exact tDirty_same c74
            refine g_iload_n (pc := 87) hX dX3_access_87 rfl 0 rfl ?_
            have e1 : cAcc1 (U, L, rd, wr) j = (S14, L, rd, wr) := by rw [hS14]; rfl
            have e2 : cAcc2 (U, L, rd, wr) j = (2, (S14, S33, r33, w33)) := by
              unfold cAcc2
              rw [if_neg (by rw [c27]; decide), e1, if_neg (by rw [c36]; decide)]
              subst hS33 hr33 hw33
              rfl
            have e3 : cAcc3 (S14, S33, r33, w33) (tTouch U j).1 = (S49, S33, r33, w33) := by
              show (if (tVic S14 (tTouch U j).1).1 = true then cDown (S14, S33, r33, w33) (tVic S14 (tTouch U j).1).2 (tTouch U j).1 else (S14, S33, r33, w33)) = _
              rw [if_neg (by rw [c52]; decide), hf49]
            have e : cAccess (U, L, rd, wr) (nI j) w = (2, (S87, S33, r33, w33)) := by
              unfold cAccess
              rw [if_pos (okPg_nI hj), nI_clamp (by omega)]
              unfold cAcc
              rw [e2]
              show (2, if w = true then (tDirty (cAcc3 (S14, S33, r33, w33) (tTouch U j).1).1 j true, (cAcc3 (S14, S33, r33, w33) (tTouch U j).1).2) else cAcc3 (S14, S33, r33, w33) (tTouch U j).1) = _
              rw [e3]
              show (2, if w = true then (tDirty S49 j true, (S33, r33, w33)) else (S49, (S33, r33, w33))) = _
              rw [hf87, tDirty_same c74, ite_self]
            rw [e] at hret
            exact hret (u := (u33.1, u33.2.1, u33.2.2.1, u33.2.2.2.1, upd u49.1 j (nI 1), u49.2, u33.2.2.2.2.2.2)) dX3_access_88 (⟨rfl, hM87⟩) rfl
          · refine g_iload_n (pc := 77) hX dX3_access_77 rfl 5 rfl ?_
            refine g_ifB_eq (pc := 78) (tgt := 85) hX dX3_access_78 (by decide) (fun c78 => ?_) (fun c78 => ?_)
            · refine g_iconst (pc := 85) (v := (nI 0)) hX dX3_access_85 (by decide) ?_
              refine g_zast (pc := 86) (ws' := [(m, .inr (3, [.ref (am 0), .ref (am 1), .ref (am 2), .ref (am 3), .ref (am 4), .ref (am 5), .ref (am 6), .ref (am 7), .int r33, .int w33, .int u33.2.2.2.2.2.2])), (am 0, .inl (K.2.1, 2, .inl po)), (am 1, .inl (K.2.1, 2, .inl ca)), (am 2, .inl (K.2.1, 2, .inl u33.1)), (am 3, .inl (K.2.1, 8, .inl u33.2.1)), (am 4, .inl (K.2.1, 160, .inl u33.2.2.1)), (am 5, .inl (K.2.2.1, 128, .inl u33.2.2.2.1)), (am 6, .inl (K.2.2.1, 128, .inl (upd u49.1 j (nI 0)))), (am 7, .inl (K.2.1, 6, .inl u49.2))]) hX 7 rfl (by omega) (by omega) (by decide) rfl dX3_access_86 ?_
              obtain ⟨S87, hS87⟩ : ∃ z : TS, z = tDirty S49 j false := ⟨_, rfl⟩
              have hM87 : mR (sF S87 S33) po ca u33.1 u33.2.1 u33.2.2.1 u33.2.2.2.1 (upd u49.1 j (nI 0)) u49.2 := by
                have k := hM49.2.2.2.2.2.1.set (t := 0) (p := j) (by omega) hj false
                rw [show 64 * 0 + j = j by omega] at k
                have k2 := mR_set (t := 0) (S := tDirty S49 j false) hM49 (by omega) rfl rfl (hM49.2.2.1 0 (by omega)) (fun _ _ => rfl) (hM49.row (S := S49) rfl) (hM49.mk (S := S49) rfl) k (hM49.2.2.2.2.2.2 0 (by omega)) (fun _ _ => rfl)
                rw [sF_u0] at k2
                rw [hS87]
                exact k2
              have iS87 : tInv S87 := by rw [hS87]; exact iS49
              have hf87 : S87 = S49 := by rw [hS87]; exact tDirty_same c74
              refine g_iload_n (pc := 87) hX dX3_access_87 rfl 0 rfl ?_
              have e1 : cAcc1 (U, L, rd, wr) j = (S14, L, rd, wr) := by rw [hS14]; rfl
              have e2 : cAcc2 (U, L, rd, wr) j = (2, (S14, S33, r33, w33)) := by
                unfold cAcc2
                rw [if_neg (by rw [c27]; decide), e1, if_neg (by rw [c36]; decide)]
                subst hS33 hr33 hw33
                rfl
              have e3 : cAcc3 (S14, S33, r33, w33) (tTouch U j).1 = (S49, S33, r33, w33) := by
                show (if (tVic S14 (tTouch U j).1).1 = true then cDown (S14, S33, r33, w33) (tVic S14 (tTouch U j).1).2 (tTouch U j).1 else (S14, S33, r33, w33)) = _
                rw [if_neg (by rw [c52]; decide), hf49]
              have e : cAccess (U, L, rd, wr) (nI j) w = (2, (S87, S33, r33, w33)) := by
                unfold cAccess
                rw [if_pos (okPg_nI hj), nI_clamp (by omega)]
                unfold cAcc
                rw [e2]
                show (2, if w = true then (tDirty (cAcc3 (S14, S33, r33, w33) (tTouch U j).1).1 j true, (cAcc3 (S14, S33, r33, w33) (tTouch U j).1).2) else cAcc3 (S14, S33, r33, w33) (tTouch U j).1) = _
                rw [e3]
                show (2, if w = true then (tDirty S49 j true, (S33, r33, w33)) else (S49, (S33, r33, w33))) = _
                rw [if_neg (by rw [c78]; decide), hf87]
              rw [e] at hret
              exact hret (u := (u33.1, u33.2.1, u33.2.2.1, u33.2.2.2.1, upd u49.1 j (nI 0), u49.2, u33.2.2.2.2.2.2)) dX3_access_88 (⟨rfl, hM87⟩) rfl
            · refine g_iconst (pc := 81) (v := (nI 1)) hX dX3_access_81 (by decide) ?_
              refine g_goto (pc := 82) (tgt := 86) hX dX3_access_82 (by decide) ?_
              refine g_zast (pc := 86) (ws' := [(m, .inr (3, [.ref (am 0), .ref (am 1), .ref (am 2), .ref (am 3), .ref (am 4), .ref (am 5), .ref (am 6), .ref (am 7), .int r33, .int w33, .int u33.2.2.2.2.2.2])), (am 0, .inl (K.2.1, 2, .inl po)), (am 1, .inl (K.2.1, 2, .inl ca)), (am 2, .inl (K.2.1, 2, .inl u33.1)), (am 3, .inl (K.2.1, 8, .inl u33.2.1)), (am 4, .inl (K.2.1, 160, .inl u33.2.2.1)), (am 5, .inl (K.2.2.1, 128, .inl u33.2.2.2.1)), (am 6, .inl (K.2.2.1, 128, .inl (upd u49.1 j (nI 1)))), (am 7, .inl (K.2.1, 6, .inl u49.2))]) hX 7 rfl (by omega) (by omega) (by decide) rfl dX3_access_86 ?_
              obtain ⟨S87, hS87⟩ : ∃ z : TS, z = tDirty S49 j true := ⟨_, rfl⟩
              have hM87 : mR (sF S87 S33) po ca u33.1 u33.2.1 u33.2.2.1 u33.2.2.2.1 (upd u49.1 j (nI 1)) u49.2 := by
                have k := hM49.2.2.2.2.2.1.set (t := 0) (p := j) (by omega) hj true
                rw [show 64 * 0 + j = j by omega] at k
                have k2 := mR_set (t := 0) (S := tDirty S49 j true) hM49 (by omega) rfl rfl (hM49.2.2.1 0 (by omega)) (fun _ _ => rfl) (hM49.row (S := S49) rfl) (hM49.mk (S := S49) rfl) k (hM49.2.2.2.2.2.2 0 (by omega)) (fun _ _ => rfl)
                rw [sF_u0] at k2
                rw [hS87]
                exact k2
              have iS87 : tInv S87 := by rw [hS87]; exact iS49
              refine g_iload_n (pc := 87) hX dX3_access_87 rfl 0 rfl ?_
              have e1 : cAcc1 (U, L, rd, wr) j = (S14, L, rd, wr) := by rw [hS14]; rfl
              have e2 : cAcc2 (U, L, rd, wr) j = (2, (S14, S33, r33, w33)) := by
                unfold cAcc2
                rw [if_neg (by rw [c27]; decide), e1, if_neg (by rw [c36]; decide)]
                subst hS33 hr33 hw33
                rfl
              have e3 : cAcc3 (S14, S33, r33, w33) (tTouch U j).1 = (S49, S33, r33, w33) := by
                show (if (tVic S14 (tTouch U j).1).1 = true then cDown (S14, S33, r33, w33) (tVic S14 (tTouch U j).1).2 (tTouch U j).1 else (S14, S33, r33, w33)) = _
                rw [if_neg (by rw [c52]; decide), hf49]
              have e : cAccess (U, L, rd, wr) (nI j) w = (2, (S87, S33, r33, w33)) := by
                unfold cAccess
                rw [if_pos (okPg_nI hj), nI_clamp (by omega)]
                unfold cAcc
                rw [e2]
                show (2, if w = true then (tDirty (cAcc3 (S14, S33, r33, w33) (tTouch U j).1).1 j true, (cAcc3 (S14, S33, r33, w33) (tTouch U j).1).2) else cAcc3 (S14, S33, r33, w33) (tTouch U j).1) = _
                rw [e3]
                show (2, if w = true then (tDirty S49 j true, (S33, r33, w33)) else (S49, (S33, r33, w33))) = _
                rw [if_pos c78, hS87]
              rw [e] at hret
              exact hret (u := (u33.1, u33.2.1, u33.2.2.1, u33.2.2.2.1, upd u49.1 j (nI 1), u49.2, u33.2.2.2.2.2.2)) dX3_access_88 (⟨rfl, hM87⟩) rfl
        · obtain ⟨p, hp⟩ := tVic_t c52
          have hp64 : p < 64 := vS14 p hp
          refine g_lv (lv' := [(3, .int (nI 2)), (5, .int (nI p)), (4, .int (bI (tHolds U j))), (0, .ref m), (1, .int (nI j)), (2, .int (bI w))]) (by rw [hp]; rfl) ?_
          refine g_aload_n (pc := 55) hX dX3_access_55 rfl 3 rfl ?_
          refine g_iload (pc := 56) hX dX3_access_56 1 rfl ?_
          refine g_iconst (pc := 58) (v := (nI 1)) hX dX3_access_58 (by decide) ?_
          refine g_top (y := (bI true)) (by decide) ?_
          refine g_ci (pc := 59) hX (wc := [(m, .inr (3, [.ref (am 0), .ref (am 1), .ref (am 2), .ref (am 3), .ref (am 4), .ref (am 5), .ref (am 6), .ref (am 7), .int r33, .int w33, .int u33.2.2.2.2.2.2])), (am 0, .inl (K.2.1, 2, .inl po)), (am 1, .inl (K.2.1, 2, .inl ca)), (am 2, .inl (K.2.1, 2, .inl u33.1)), (am 3, .inl (K.2.1, 8, .inl u33.2.1)), (am 4, .inl (K.2.1, 160, .inl u33.2.2.1)), (am 5, .inl (K.2.2.1, 128, .inl u33.2.2.2.1)), (am 6, .inl (K.2.2.1, 128, .inl u49.1)), (am 7, .inl (K.2.1, 6, .inl u49.2))]) (wr := []) (Wd' := fun u59 => [(m, .inr (3, [.ref (am 0), .ref (am 1), .ref (am 2), .ref (am 3), .ref (am 4), .ref (am 5), .ref (am 6), .ref (am 7), .int ((cAsk (S49, S33, r33, w33) p true).2.2.2.1), .int ((cAsk (S49, S33, r33, w33) p true).2.2.2.2), .int u59.2.2.2.2.2.2])), (am 0, .inl (K.2.1, 2, .inl po)), (am 1, .inl (K.2.1, 2, .inl ca)), (am 2, .inl (K.2.1, 2, .inl u59.1)), (am 3, .inl (K.2.1, 8, .inl u59.2.1)), (am 4, .inl (K.2.1, 160, .inl u59.2.2.1)), (am 5, .inl (K.2.2.1, 128, .inl u59.2.2.2.1)), (am 6, .inl (K.2.2.1, 128, .inl u59.2.2.2.2.1)), (am 7, .inl (K.2.1, 6, .inl u59.2.2.2.2.2.1))]) (g_goV (pc := 59) hX (As := [.int (nI p), .int (bI true)]) (stk := []) (wc := [(m, .inr (3, [.ref (am 0), .ref (am 1), .ref (am 2), .ref (am 3), .ref (am 4), .ref (am 5), .ref (am 6), .ref (am 7), .int r33, .int w33, .int u33.2.2.2.2.2.2])), (am 0, .inl (K.2.1, 2, .inl po)), (am 1, .inl (K.2.1, 2, .inl ca)), (am 2, .inl (K.2.1, 2, .inl u33.1)), (am 3, .inl (K.2.1, 8, .inl u33.2.1)), (am 4, .inl (K.2.1, 160, .inl u33.2.2.1)), (am 5, .inl (K.2.2.1, 128, .inl u33.2.2.2.1)), (am 6, .inl (K.2.2.1, 128, .inl u49.1)), (am 7, .inl (K.2.1, 6, .inl u49.2))]) (c_X3_askLower l K m am po ca u33.1 u33.2.1 u33.2.2.1 u33.2.2.2.1 u49.1 u49.2 r33 w33 u33.2.2.2.2.2.2 S49 S33 hM49 iS49 iS33_ p hp64 true) rfl rfl rfl gX3_access_X3_askLower nX3_askLowerV rfl 0 rfl ⟨(Nat.le_of_ble_eq_true rfl), (Nat.le_of_ble_eq_true rfl)⟩ [0, 1, 2, 3, 4, 5, 6, 7, 8] rfl rfl rfl (Nat.le_of_ble_eq_true rfl) dX3_access_59 ⟨(Nat.le_of_ble_eq_true rfl), (Nat.le_of_ble_eq_true rfl)⟩) [0, 1, 2, 3, 4, 5, 6, 7, 8] [] [0, 1, 2, 3, 4, 5, 6, 7, 8] rfl rfl rfl (by decide) rfl (fun _ => rfl) (fun r u59 h59 => ?_)
          obtain ⟨rfl, hM59, iS59_⟩ := h59
          obtain ⟨S59, hS59⟩ : ∃ z : TS, z = (cAsk (S49, S33, r33, w33) p true).2.2.1 := ⟨_, rfl⟩
          obtain ⟨r59, hr59⟩ : ∃ z : Int32, z = (cAsk (S49, S33, r33, w33) p true).2.2.2.1 := ⟨_, rfl⟩
          obtain ⟨w59, hw59⟩ : ∃ z : Int32, z = (cAsk (S49, S33, r33, w33) p true).2.2.2.2 := ⟨_, rfl⟩
          refine g_ws (ws' := [(m, .inr (3, [.ref (am 0), .ref (am 1), .ref (am 2), .ref (am 3), .ref (am 4), .ref (am 5), .ref (am 6), .ref (am 7), .int r59, .int w59, .int u59.2.2.2.2.2.2])), (am 0, .inl (K.2.1, 2, .inl po)), (am 1, .inl (K.2.1, 2, .inl ca)), (am 2, .inl (K.2.1, 2, .inl u59.1)), (am 3, .inl (K.2.1, 8, .inl u59.2.1)), (am 4, .inl (K.2.1, 160, .inl u59.2.2.1)), (am 5, .inl (K.2.2.1, 128, .inl u59.2.2.2.1)), (am 6, .inl (K.2.2.1, 128, .inl u59.2.2.2.2.1)), (am 7, .inl (K.2.1, 6, .inl u59.2.2.2.2.2.1))]) (by subst hr59 hw59; rfl) ?_
          rw [← hS59] at hM59 iS59_
          refine g_pop (pc := 62) hX dX3_access_62 rfl ?_
          refine g_aload_n (pc := 63) hX dX3_access_63 rfl 3 rfl ?_
          refine g_get (pc := 64) (C := RX3) (T := TX3) (N := 11) (ci := 3) (v := .ref (am 6)) hX inX3_access_X3 0 rfl rfl 6 (by decide) flX3_access_29 rfl rfl dX3_access_64 ?_
          refine g_iload_n (pc := 67) hX dX3_access_67 rfl 4 rfl ?_
          refine g_aload_n (pc := 68) hX dX3_access_68 rfl 3 rfl ?_
          refine g_get (pc := 69) (C := RX3) (T := TX3) (N := 11) (ci := 3) (v := .ref (am 6)) hX inX3_access_X3 0 rfl rfl 6 (by decide) flX3_access_29 rfl rfl dX3_access_69 ?_
          refine g_iload_n (pc := 72) hX dX3_access_72 rfl 4 rfl ?_
          refine g_zald (pc := 73) (v := (bI (S49.2.2.1.2 j))) hX 7 rfl (by omega) (by omega) (by have k := hM59.2.2.2.2.2.1 0 (by omega) j hj; rw [show 64 * 0 + j = j by omega] at k; exact k) dX3_access_73 ?_
          refine g_ifB_ne (pc := 74) (tgt := 81) hX dX3_access_74 (by decide) (fun c74 => ?_) (fun c74 => ?_)
          · refine g_iconst (pc := 81) (v := (nI 1)) hX dX3_access_81 (by decide) ?_
            refine g_goto (pc := 82) (tgt := 86) hX dX3_access_82 (by decide) ?_
            refine g_zast (pc := 86) (ws' := [(m, .inr (3, [.ref (am 0), .ref (am 1), .ref (am 2), .ref (am 3), .ref (am 4), .ref (am 5), .ref (am 6), .ref (am 7), .int r59, .int w59, .int u59.2.2.2.2.2.2])), (am 0, .inl (K.2.1, 2, .inl po)), (am 1, .inl (K.2.1, 2, .inl ca)), (am 2, .inl (K.2.1, 2, .inl u59.1)), (am 3, .inl (K.2.1, 8, .inl u59.2.1)), (am 4, .inl (K.2.1, 160, .inl u59.2.2.1)), (am 5, .inl (K.2.2.1, 128, .inl u59.2.2.2.1)), (am 6, .inl (K.2.2.1, 128, .inl (upd u59.2.2.2.2.1 j (nI 1)))), (am 7, .inl (K.2.1, 6, .inl u59.2.2.2.2.2.1))]) hX 7 rfl (by omega) (by omega) (by decide) rfl dX3_access_86 ?_
            obtain ⟨S87, hS87⟩ : ∃ z : TS, z = tDirty S49 j true := ⟨_, rfl⟩
            have hM87 : mR (sF S87 S59) po ca u59.1 u59.2.1 u59.2.2.1 u59.2.2.2.1 (upd u59.2.2.2.2.1 j (nI 1)) u59.2.2.2.2.2.1 := by
              have k := hM59.2.2.2.2.2.1.set (t := 0) (p := j) (by omega) hj true
              rw [show 64 * 0 + j = j by omega] at k
              have k2 := mR_set (t := 0) (S := tDirty S49 j true) hM59 (by omega) rfl rfl (hM59.2.2.1 0 (by omega)) (fun _ _ => rfl) (hM59.row (S := S49) rfl) (hM59.mk (S := S49) rfl) k (hM59.2.2.2.2.2.2 0 (by omega)) (fun _ _ => rfl)
              rw [sF_u0] at k2
              rw [hS87]
              exact k2
            have iS87 : tInv S87 := by rw [hS87]; exact iS49
            have hf87 : S87 = S49 := by rw [hS87]; exact tDirty_same c74
            refine g_iload_n (pc := 87) hX dX3_access_87 rfl 0 rfl ?_
            have e1 : cAcc1 (U, L, rd, wr) j = (S14, L, rd, wr) := by rw [hS14]; rfl
            have e2 : cAcc2 (U, L, rd, wr) j = (2, (S14, S33, r33, w33)) := by
              unfold cAcc2
              rw [if_neg (by rw [c27]; decide), e1, if_neg (by rw [c36]; decide)]
              subst hS33 hr33 hw33
              rfl
            have e3 : cAcc3 (S14, S33, r33, w33) (tTouch U j).1 = (S49, S59, r59, w59) := by
              show (if (tVic S14 (tTouch U j).1).1 = true then cDown (S14, S33, r33, w33) (tVic S14 (tTouch U j).1).2 (tTouch U j).1 else (S14, S33, r33, w33)) = _
              rw [if_pos c52, ← hS49, hp]
              subst hS59 hr59 hw59
              rfl
            have e : cAccess (U, L, rd, wr) (nI j) w = (2, (S87, S59, r59, w59)) := by
              unfold cAccess
              rw [if_pos (okPg_nI hj), nI_clamp (by omega)]
              unfold cAcc
              rw [e2]
              show (2, if w = true then (tDirty (cAcc3 (S14, S33, r33, w33) (tTouch U j).1).1 j true, (cAcc3 (S14, S33, r33, w33) (tTouch U j).1).2) else cAcc3 (S14, S33, r33, w33) (tTouch U j).1) = _
              rw [e3]
              show (2, if w = true then (tDirty S49 j true, (S59, r59, w59)) else (S49, (S59, r59, w59))) = _
              rw [hf87, tDirty_same c74, ite_self]
            rw [e] at hret
            exact hret (u := (u59.1, u59.2.1, u59.2.2.1, u59.2.2.2.1, upd u59.2.2.2.2.1 j (nI 1), u59.2.2.2.2.2.1, u59.2.2.2.2.2.2)) dX3_access_88 (⟨rfl, hM87⟩) rfl
          · refine g_iload_n (pc := 77) hX dX3_access_77 rfl 5 rfl ?_
            refine g_ifB_eq (pc := 78) (tgt := 85) hX dX3_access_78 (by decide) (fun c78 => ?_) (fun c78 => ?_)
            · refine g_iconst (pc := 85) (v := (nI 0)) hX dX3_access_85 (by decide) ?_
              refine g_zast (pc := 86) (ws' := [(m, .inr (3, [.ref (am 0), .ref (am 1), .ref (am 2), .ref (am 3), .ref (am 4), .ref (am 5), .ref (am 6), .ref (am 7), .int r59, .int w59, .int u59.2.2.2.2.2.2])), (am 0, .inl (K.2.1, 2, .inl po)), (am 1, .inl (K.2.1, 2, .inl ca)), (am 2, .inl (K.2.1, 2, .inl u59.1)), (am 3, .inl (K.2.1, 8, .inl u59.2.1)), (am 4, .inl (K.2.1, 160, .inl u59.2.2.1)), (am 5, .inl (K.2.2.1, 128, .inl u59.2.2.2.1)), (am 6, .inl (K.2.2.1, 128, .inl (upd u59.2.2.2.2.1 j (nI 0)))), (am 7, .inl (K.2.1, 6, .inl u59.2.2.2.2.2.1))]) hX 7 rfl (by omega) (by omega) (by decide) rfl dX3_access_86 ?_
              obtain ⟨S87, hS87⟩ : ∃ z : TS, z = tDirty S49 j false := ⟨_, rfl⟩
              have hM87 : mR (sF S87 S59) po ca u59.1 u59.2.1 u59.2.2.1 u59.2.2.2.1 (upd u59.2.2.2.2.1 j (nI 0)) u59.2.2.2.2.2.1 := by
                have k := hM59.2.2.2.2.2.1.set (t := 0) (p := j) (by omega) hj false
                rw [show 64 * 0 + j = j by omega] at k
                have k2 := mR_set (t := 0) (S := tDirty S49 j false) hM59 (by omega) rfl rfl (hM59.2.2.1 0 (by omega)) (fun _ _ => rfl) (hM59.row (S := S49) rfl) (hM59.mk (S := S49) rfl) k (hM59.2.2.2.2.2.2 0 (by omega)) (fun _ _ => rfl)
                rw [sF_u0] at k2
                rw [hS87]
                exact k2
              have iS87 : tInv S87 := by rw [hS87]; exact iS49
              have hf87 : S87 = S49 := by rw [hS87]; exact tDirty_same c74
              refine g_iload_n (pc := 87) hX dX3_access_87 rfl 0 rfl ?_
              have e1 : cAcc1 (U, L, rd, wr) j = (S14, L, rd, wr) := by rw [hS14]; rfl
              have e2 : cAcc2 (U, L, rd, wr) j = (2, (S14, S33, r33, w33)) := by
                unfold cAcc2
                rw [if_neg (by rw [c27]; decide), e1, if_neg (by rw [c36]; decide)]
                subst hS33 hr33 hw33
                rfl
              have e3 : cAcc3 (S14, S33, r33, w33) (tTouch U j).1 = (S49, S59, r59, w59) := by
                show (if (tVic S14 (tTouch U j).1).1 = true then cDown (S14, S33, r33, w33) (tVic S14 (tTouch U j).1).2 (tTouch U j).1 else (S14, S33, r33, w33)) = _
                rw [if_pos c52, ← hS49, hp]
                subst hS59 hr59 hw59
                rfl
              have e : cAccess (U, L, rd, wr) (nI j) w = (2, (S87, S59, r59, w59)) := by
                unfold cAccess
                rw [if_pos (okPg_nI hj), nI_clamp (by omega)]
                unfold cAcc
                rw [e2]
                show (2, if w = true then (tDirty (cAcc3 (S14, S33, r33, w33) (tTouch U j).1).1 j true, (cAcc3 (S14, S33, r33, w33) (tTouch U j).1).2) else cAcc3 (S14, S33, r33, w33) (tTouch U j).1) = _
                rw [e3]
                show (2, if w = true then (tDirty S49 j true, (S59, r59, w59)) else (S49, (S59, r59, w59))) = _
                rw [if_neg (by rw [c78]; decide), hf87]
              rw [e] at hret
              exact hret (u := (u59.1, u59.2.1, u59.2.2.1, u59.2.2.2.1, upd u59.2.2.2.2.1 j (nI 0), u59.2.2.2.2.2.1, u59.2.2.2.2.2.2)) dX3_access_88 (⟨rfl, hM87⟩) rfl
            · refine g_iconst (pc := 81) (v := (nI 1)) hX dX3_access_81 (by decide) ?_
              refine g_goto (pc := 82) (tgt := 86) hX dX3_access_82 (by decide) ?_
              refine g_zast (pc := 86) (ws' := [(m, .inr (3, [.ref (am 0), .ref (am 1), .ref (am 2), .ref (am 3), .ref (am 4), .ref (am 5), .ref (am 6), .ref (am 7), .int r59, .int w59, .int u59.2.2.2.2.2.2])), (am 0, .inl (K.2.1, 2, .inl po)), (am 1, .inl (K.2.1, 2, .inl ca)), (am 2, .inl (K.2.1, 2, .inl u59.1)), (am 3, .inl (K.2.1, 8, .inl u59.2.1)), (am 4, .inl (K.2.1, 160, .inl u59.2.2.1)), (am 5, .inl (K.2.2.1, 128, .inl u59.2.2.2.1)), (am 6, .inl (K.2.2.1, 128, .inl (upd u59.2.2.2.2.1 j (nI 1)))), (am 7, .inl (K.2.1, 6, .inl u59.2.2.2.2.2.1))]) hX 7 rfl (by omega) (by omega) (by decide) rfl dX3_access_86 ?_
              obtain ⟨S87, hS87⟩ : ∃ z : TS, z = tDirty S49 j true := ⟨_, rfl⟩
              have hM87 : mR (sF S87 S59) po ca u59.1 u59.2.1 u59.2.2.1 u59.2.2.2.1 (upd u59.2.2.2.2.1 j (nI 1)) u59.2.2.2.2.2.1 := by
                have k := hM59.2.2.2.2.2.1.set (t := 0) (p := j) (by omega) hj true
                rw [show 64 * 0 + j = j by omega] at k
                have k2 := mR_set (t := 0) (S := tDirty S49 j true) hM59 (by omega) rfl rfl (hM59.2.2.1 0 (by omega)) (fun _ _ => rfl) (hM59.row (S := S49) rfl) (hM59.mk (S := S49) rfl) k (hM59.2.2.2.2.2.2 0 (by omega)) (fun _ _ => rfl)
                rw [sF_u0] at k2
                rw [hS87]
                exact k2
              have iS87 : tInv S87 := by rw [hS87]; exact iS49
              refine g_iload_n (pc := 87) hX dX3_access_87 rfl 0 rfl ?_
              have e1 : cAcc1 (U, L, rd, wr) j = (S14, L, rd, wr) := by rw [hS14]; rfl
              have e2 : cAcc2 (U, L, rd, wr) j = (2, (S14, S33, r33, w33)) := by
                unfold cAcc2
                rw [if_neg (by rw [c27]; decide), e1, if_neg (by rw [c36]; decide)]
                subst hS33 hr33 hw33
                rfl
              have e3 : cAcc3 (S14, S33, r33, w33) (tTouch U j).1 = (S49, S59, r59, w59) := by
                show (if (tVic S14 (tTouch U j).1).1 = true then cDown (S14, S33, r33, w33) (tVic S14 (tTouch U j).1).2 (tTouch U j).1 else (S14, S33, r33, w33)) = _
                rw [if_pos c52, ← hS49, hp]
                subst hS59 hr59 hw59
                rfl
              have e : cAccess (U, L, rd, wr) (nI j) w = (2, (S87, S59, r59, w59)) := by
                unfold cAccess
                rw [if_pos (okPg_nI hj), nI_clamp (by omega)]
                unfold cAcc
                rw [e2]
                show (2, if w = true then (tDirty (cAcc3 (S14, S33, r33, w33) (tTouch U j).1).1 j true, (cAcc3 (S14, S33, r33, w33) (tTouch U j).1).2) else cAcc3 (S14, S33, r33, w33) (tTouch U j).1) = _
                rw [e3]
                show (2, if w = true then (tDirty S49 j true, (S59, r59, w59)) else (S49, (S59, r59, w59))) = _
                rw [if_pos c78, hS87]
              rw [e] at hret
              exact hret (u := (u59.1, u59.2.1, u59.2.2.1, u59.2.2.2.1, upd u59.2.2.2.2.1 j (nI 1), u59.2.2.2.2.2.1, u59.2.2.2.2.2.2)) dX3_access_88 (⟨rfl, hM87⟩) rfl
      · refine g_iconst (pc := 39) (v := (nI 1)) hX dX3_access_39 (by decide) ?_
        refine g_goto (pc := 40) (tgt := 44) hX dX3_access_40 (by decide) ?_
        refine g_istore_n (pc := 44) (lv' := [(3, .int (nI 1)), (5, .int (pI ((tTouch U j).1))), (4, .int (bI (tHolds U j))), (0, .ref m), (1, .int (nI j)), (2, .int (bI w))]) hX dX3_access_44 rfl (by decide) rfl ?_
        refine g_aload_n (pc := 45) hX dX3_access_45 rfl 3 rfl ?_
        refine g_iconst (pc := 46) (v := (nI 0)) hX dX3_access_46 (by decide) ?_
        refine g_iload (pc := 47) hX dX3_access_47 1 rfl ?_
        refine g_ci (pc := 49) hX (wc := [(m, .inr (3, [.ref (am 0), .ref (am 1), .ref (am 2), .ref (am 3), .ref (am 4), .ref (am 5), .ref (am 6), .ref (am 7), .int r33, .int w33, .int u33.2.2.2.2.2.2])), (am 0, .inl (K.2.1, 2, .inl po)), (am 1, .inl (K.2.1, 2, .inl ca)), (am 2, .inl (K.2.1, 2, .inl u33.1)), (am 3, .inl (K.2.1, 8, .inl u33.2.1)), (am 4, .inl (K.2.1, 160, .inl u33.2.2.1)), (am 5, .inl (K.2.2.1, 128, .inl u33.2.2.2.1)), (am 6, .inl (K.2.2.1, 128, .inl u33.2.2.2.2.1)), (am 7, .inl (K.2.1, 6, .inl u33.2.2.2.2.2.1))]) (wr := []) (Wd' := fun u49 => [(m, .inr (3, [.ref (am 0), .ref (am 1), .ref (am 2), .ref (am 3), .ref (am 4), .ref (am 5), .ref (am 6), .ref (am 7), .int r33, .int w33, .int u33.2.2.2.2.2.2])), (am 0, .inl (K.2.1, 2, .inl po)), (am 1, .inl (K.2.1, 2, .inl ca)), (am 2, .inl (K.2.1, 2, .inl u33.1)), (am 3, .inl (K.2.1, 8, .inl u33.2.1)), (am 4, .inl (K.2.1, 160, .inl u33.2.2.1)), (am 5, .inl (K.2.2.1, 128, .inl u33.2.2.2.1)), (am 6, .inl (K.2.2.1, 128, .inl u49.1)), (am 7, .inl (K.2.1, 6, .inl u49.2))]) (g_goV (pc := 49) hX (As := [.int (nI 0), .int (pI ((tTouch U j).1))]) (stk := []) (wc := [(m, .inr (3, [.ref (am 0), .ref (am 1), .ref (am 2), .ref (am 3), .ref (am 4), .ref (am 5), .ref (am 6), .ref (am 7), .int r33, .int w33, .int u33.2.2.2.2.2.2])), (am 0, .inl (K.2.1, 2, .inl po)), (am 1, .inl (K.2.1, 2, .inl ca)), (am 2, .inl (K.2.1, 2, .inl u33.1)), (am 3, .inl (K.2.1, 8, .inl u33.2.1)), (am 4, .inl (K.2.1, 160, .inl u33.2.2.1)), (am 5, .inl (K.2.2.1, 128, .inl u33.2.2.2.1)), (am 6, .inl (K.2.2.1, 128, .inl u33.2.2.2.2.1)), (am 7, .inl (K.2.1, 6, .inl u33.2.2.2.2.2.1))]) (c_X3_dries l K m am po ca u33.1 u33.2.1 u33.2.2.1 u33.2.2.2.1 u33.2.2.2.2.1 u33.2.2.2.2.2.1 r33 w33 u33.2.2.2.2.2.2 (sF S14 S33) hM33 0 (by omega) ((tTouch U j).1) vS14) rfl rfl rfl gX3_access_X3_dries nX3_driesV rfl 0 rfl ⟨(Nat.le_of_ble_eq_true rfl), (Nat.le_of_ble_eq_true rfl)⟩ [0, 1, 2, 3, 4, 5, 6, 7, 8] rfl rfl rfl (Nat.le_of_ble_eq_true rfl) dX3_access_49 ⟨(Nat.le_of_ble_eq_true rfl), (Nat.le_of_ble_eq_true rfl)⟩) [0, 1, 2, 3, 4, 5, 6, 7, 8] [] [0, 1, 2, 3, 4, 5, 6, 7, 8] rfl rfl rfl (by decide) rfl (fun _ => rfl) (fun r u49 h49 => ?_)
        obtain ⟨rfl, hM49⟩ := h49
        refine g_top (y := (bI ((tVic S14 ((tTouch U j).1)).1))) rfl ?_
        rw [sF_0, sF_u0] at hM49
        obtain ⟨S49, hS49⟩ : ∃ z : TS, z = (tVic S14 ((tTouch U j).1)).2 := ⟨_, rfl⟩
        rw [← hS49] at hM49
        have iS49 : tInv S49 := by rw [hS49]; exact tVic_inv iS14 _
        refine g_ifB_eq (pc := 52) (tgt := 63) hX dX3_access_52 (by decide) (fun c52 => ?_) (fun c52 => ?_)
        · have hf49 : S49 = S14 := by rw [hS49]; exact tVic_f c52
          refine g_aload_n (pc := 63) hX dX3_access_63 rfl 3 rfl ?_
          refine g_get (pc := 64) (C := RX3) (T := TX3) (N := 11) (ci := 3) (v := .ref (am 6)) hX inX3_access_X3 0 rfl rfl 6 (by decide) flX3_access_29 rfl rfl dX3_access_64 ?_
          refine g_iload_n (pc := 67) hX dX3_access_67 rfl 4 rfl ?_
          refine g_aload_n (pc := 68) hX dX3_access_68 rfl 3 rfl ?_
          refine g_get (pc := 69) (C := RX3) (T := TX3) (N := 11) (ci := 3) (v := .ref (am 6)) hX inX3_access_X3 0 rfl rfl 6 (by decide) flX3_access_29 rfl rfl dX3_access_69 ?_
          refine g_iload_n (pc := 72) hX dX3_access_72 rfl 4 rfl ?_
          refine g_zald (pc := 73) (v := (bI (S49.2.2.1.2 j))) hX 7 rfl (by omega) (by omega) (by have k := hM49.2.2.2.2.2.1 0 (by omega) j hj; rw [show 64 * 0 + j = j by omega] at k; exact k) dX3_access_73 ?_
          refine g_ifB_ne (pc := 74) (tgt := 81) hX dX3_access_74 (by decide) (fun c74 => ?_) (fun c74 => ?_)
          · refine g_iconst (pc := 81) (v := (nI 1)) hX dX3_access_81 (by decide) ?_
            refine g_goto (pc := 82) (tgt := 86) hX dX3_access_82 (by decide) ?_
            refine g_zast (pc := 86) (ws' := [(m, .inr (3, [.ref (am 0), .ref (am 1), .ref (am 2), .ref (am 3), .ref (am 4), .ref (am 5), .ref (am 6), .ref (am 7), .int r33, .int w33, .int u33.2.2.2.2.2.2])), (am 0, .inl (K.2.1, 2, .inl po)), (am 1, .inl (K.2.1, 2, .inl ca)), (am 2, .inl (K.2.1, 2, .inl u33.1)), (am 3, .inl (K.2.1, 8, .inl u33.2.1)), (am 4, .inl (K.2.1, 160, .inl u33.2.2.1)), (am 5, .inl (K.2.2.1, 128, .inl u33.2.2.2.1)), (am 6, .inl (K.2.2.1, 128, .inl (upd u49.1 j (nI 1)))), (am 7, .inl (K.2.1, 6, .inl u49.2))]) hX 7 rfl (by omega) (by omega) (by decide) rfl dX3_access_86 ?_
            obtain ⟨S87, hS87⟩ : ∃ z : TS, z = tDirty S49 j true := ⟨_, rfl⟩
            have hM87 : mR (sF S87 S33) po ca u33.1 u33.2.1 u33.2.2.1 u33.2.2.2.1 (upd u49.1 j (nI 1)) u49.2 := by
              have k := hM49.2.2.2.2.2.1.set (t := 0) (p := j) (by omega) hj true
              rw [show 64 * 0 + j = j by omega] at k
              have k2 := mR_set (t := 0) (S := tDirty S49 j true) hM49 (by omega) rfl rfl (hM49.2.2.1 0 (by omega)) (fun _ _ => rfl) (hM49.row (S := S49) rfl) (hM49.mk (S := S49) rfl) k (hM49.2.2.2.2.2.2 0 (by omega)) (fun _ _ => rfl)
              rw [sF_u0] at k2
              rw [hS87]
              exact k2
            have iS87 : tInv S87 := by rw [hS87]; exact iS49
            have hf87 : S87 = S49 := by rw [hS87]; exact tDirty_same c74
            refine g_iload_n (pc := 87) hX dX3_access_87 rfl 0 rfl ?_
            have e1 : cAcc1 (U, L, rd, wr) j = (S14, L, rd, wr) := by rw [hS14]; rfl
            have e2 : cAcc2 (U, L, rd, wr) j = (1, (S14, S33, r33, w33)) := by
              unfold cAcc2
              rw [if_neg (by rw [c27]; decide), e1, if_pos c36]
              subst hS33 hr33 hw33
              rfl
            have e3 : cAcc3 (S14, S33, r33, w33) (tTouch U j).1 = (S49, S33, r33, w33) := by
              show (if (tVic S14 (tTouch U j).1).1 = true then cDown (S14, S33, r33, w33) (tVic S14 (tTouch U j).1).2 (tTouch U j).1 else (S14, S33, r33, w33)) = _
              rw [if_neg (by rw [c52]; decide), hf49]
            have e : cAccess (U, L, rd, wr) (nI j) w = (1, (S87, S33, r33, w33)) := by
              unfold cAccess
              rw [if_pos (okPg_nI hj), nI_clamp (by omega)]
              unfold cAcc
              rw [e2]
              show (1, if w = true then (tDirty (cAcc3 (S14, S33, r33, w33) (tTouch U j).1).1 j true, (cAcc3 (S14, S33, r33, w33) (tTouch U j).1).2) else cAcc3 (S14, S33, r33, w33) (tTouch U j).1) = _
              rw [e3]
              show (1, if w = true then (tDirty S49 j true, (S33, r33, w33)) else (S49, (S33, r33, w33))) = _
              rw [hf87, tDirty_same c74, ite_self]
            rw [e] at hret
            exact hret (u := (u33.1, u33.2.1, u33.2.2.1, u33.2.2.2.1, upd u49.1 j (nI 1), u49.2, u33.2.2.2.2.2.2)) dX3_access_88 (⟨rfl, hM87⟩) rfl
          · refine g_iload_n (pc := 77) hX dX3_access_77 rfl 5 rfl ?_
            refine g_ifB_eq (pc := 78) (tgt := 85) hX dX3_access_78 (by decide) (fun c78 => ?_) (fun c78 => ?_)
            · refine g_iconst (pc := 85) (v := (nI 0)) hX dX3_access_85 (by decide) ?_
              refine g_zast (pc := 86) (ws' := [(m, .inr (3, [.ref (am 0), .ref (am 1), .ref (am 2), .ref (am 3), .ref (am 4), .ref (am 5), .ref (am 6), .ref (am 7), .int r33, .int w33, .int u33.2.2.2.2.2.2])), (am 0, .inl (K.2.1, 2, .inl po)), (am 1, .inl (K.2.1, 2, .inl ca)), (am 2, .inl (K.2.1, 2, .inl u33.1)), (am 3, .inl (K.2.1, 8, .inl u33.2.1)), (am 4, .inl (K.2.1, 160, .inl u33.2.2.1)), (am 5, .inl (K.2.2.1, 128, .inl u33.2.2.2.1)), (am 6, .inl (K.2.2.1, 128, .inl (upd u49.1 j (nI 0)))), (am 7, .inl (K.2.1, 6, .inl u49.2))]) hX 7 rfl (by omega) (by omega) (by decide) rfl dX3_access_86 ?_
              obtain ⟨S87, hS87⟩ : ∃ z : TS, z = tDirty S49 j false := ⟨_, rfl⟩
              have hM87 : mR (sF S87 S33) po ca u33.1 u33.2.1 u33.2.2.1 u33.2.2.2.1 (upd u49.1 j (nI 0)) u49.2 := by
                have k := hM49.2.2.2.2.2.1.set (t := 0) (p := j) (by omega) hj false
                rw [show 64 * 0 + j = j by omega] at k
                have k2 := mR_set (t := 0) (S := tDirty S49 j false) hM49 (by omega) rfl rfl (hM49.2.2.1 0 (by omega)) (fun _ _ => rfl) (hM49.row (S := S49) rfl) (hM49.mk (S := S49) rfl) k (hM49.2.2.2.2.2.2 0 (by omega)) (fun _ _ => rfl)
                rw [sF_u0] at k2
                rw [hS87]
                exact k2
              have iS87 : tInv S87 := by rw [hS87]; exact iS49
              have hf87 : S87 = S49 := by rw [hS87]; exact tDirty_same c74
              refine g_iload_n (pc := 87) hX dX3_access_87 rfl 0 rfl ?_
              have e1 : cAcc1 (U, L, rd, wr) j = (S14, L, rd, wr) := by rw [hS14]; rfl
              have e2 : cAcc2 (U, L, rd, wr) j = (1, (S14, S33, r33, w33)) := by
                unfold cAcc2
                rw [if_neg (by rw [c27]; decide), e1, if_pos c36]
                subst hS33 hr33 hw33
                rfl
              have e3 : cAcc3 (S14, S33, r33, w33) (tTouch U j).1 = (S49, S33, r33, w33) := by
                show (if (tVic S14 (tTouch U j).1).1 = true then cDown (S14, S33, r33, w33) (tVic S14 (tTouch U j).1).2 (tTouch U j).1 else (S14, S33, r33, w33)) = _
                rw [if_neg (by rw [c52]; decide), hf49]
              have e : cAccess (U, L, rd, wr) (nI j) w = (1, (S87, S33, r33, w33)) := by
                unfold cAccess
                rw [if_pos (okPg_nI hj), nI_clamp (by omega)]
                unfold cAcc
                rw [e2]
                show (1, if w = true then (tDirty (cAcc3 (S14, S33, r33, w33) (tTouch U j).1).1 j true, (cAcc3 (S14, S33, r33, w33) (tTouch U j).1).2) else cAcc3 (S14, S33, r33, w33) (tTouch U j).1) = _
                rw [e3]
                show (1, if w = true then (tDirty S49 j true, (S33, r33, w33)) else (S49, (S33, r33, w33))) = _
                rw [if_neg (by rw [c78]; decide), hf87]
              rw [e] at hret
              exact hret (u := (u33.1, u33.2.1, u33.2.2.1, u33.2.2.2.1, upd u49.1 j (nI 0), u49.2, u33.2.2.2.2.2.2)) dX3_access_88 (⟨rfl, hM87⟩) rfl
            · refine g_iconst (pc := 81) (v := (nI 1)) hX dX3_access_81 (by decide) ?_
              refine g_goto (pc := 82) (tgt := 86) hX dX3_access_82 (by decide) ?_
              refine g_zast (pc := 86) (ws' := [(m, .inr (3, [.ref (am 0), .ref (am 1), .ref (am 2), .ref (am 3), .ref (am 4), .ref (am 5), .ref (am 6), .ref (am 7), .int r33, .int w33, .int u33.2.2.2.2.2.2])), (am 0, .inl (K.2.1, 2, .inl po)), (am 1, .inl (K.2.1, 2, .inl ca)), (am 2, .inl (K.2.1, 2, .inl u33.1)), (am 3, .inl (K.2.1, 8, .inl u33.2.1)), (am 4, .inl (K.2.1, 160, .inl u33.2.2.1)), (am 5, .inl (K.2.2.1, 128, .inl u33.2.2.2.1)), (am 6, .inl (K.2.2.1, 128, .inl (upd u49.1 j (nI 1)))), (am 7, .inl (K.2.1, 6, .inl u49.2))]) hX 7 rfl (by omega) (by omega) (by decide) rfl dX3_access_86 ?_
              obtain ⟨S87, hS87⟩ : ∃ z : TS, z = tDirty S49 j true := ⟨_, rfl⟩
              have hM87 : mR (sF S87 S33) po ca u33.1 u33.2.1 u33.2.2.1 u33.2.2.2.1 (upd u49.1 j (nI 1)) u49.2 := by
                have k := hM49.2.2.2.2.2.1.set (t := 0) (p := j) (by omega) hj true
                rw [show 64 * 0 + j = j by omega] at k
                have k2 := mR_set (t := 0) (S := tDirty S49 j true) hM49 (by omega) rfl rfl (hM49.2.2.1 0 (by omega)) (fun _ _ => rfl) (hM49.row (S := S49) rfl) (hM49.mk (S := S49) rfl) k (hM49.2.2.2.2.2.2 0 (by omega)) (fun _ _ => rfl)
                rw [sF_u0] at k2
                rw [hS87]
                exact k2
              have iS87 : tInv S87 := by rw [hS87]; exact iS49
              refine g_iload_n (pc := 87) hX dX3_access_87 rfl 0 rfl ?_
              have e1 : cAcc1 (U, L, rd, wr) j = (S14, L, rd, wr) := by rw [hS14]; rfl
              have e2 : cAcc2 (U, L, rd, wr) j = (1, (S14, S33, r33, w33)) := by
                unfold cAcc2
                rw [if_neg (by rw [c27]; decide), e1, if_pos c36]
                subst hS33 hr33 hw33
                rfl
              have e3 : cAcc3 (S14, S33, r33, w33) (tTouch U j).1 = (S49, S33, r33, w33) := by
                show (if (tVic S14 (tTouch U j).1).1 = true then cDown (S14, S33, r33, w33) (tVic S14 (tTouch U j).1).2 (tTouch U j).1 else (S14, S33, r33, w33)) = _
                rw [if_neg (by rw [c52]; decide), hf49]
              have e : cAccess (U, L, rd, wr) (nI j) w = (1, (S87, S33, r33, w33)) := by
                unfold cAccess
                rw [if_pos (okPg_nI hj), nI_clamp (by omega)]
                unfold cAcc
                rw [e2]
                show (1, if w = true then (tDirty (cAcc3 (S14, S33, r33, w33) (tTouch U j).1).1 j true, (cAcc3 (S14, S33, r33, w33) (tTouch U j).1).2) else cAcc3 (S14, S33, r33, w33) (tTouch U j).1) = _
                rw [e3]
                show (1, if w = true then (tDirty S49 j true, (S33, r33, w33)) else (S49, (S33, r33, w33))) = _
                rw [if_pos c78, hS87]
              rw [e] at hret
              exact hret (u := (u33.1, u33.2.1, u33.2.2.1, u33.2.2.2.1, upd u49.1 j (nI 1), u49.2, u33.2.2.2.2.2.2)) dX3_access_88 (⟨rfl, hM87⟩) rfl
        · obtain ⟨p, hp⟩ := tVic_t c52
          have hp64 : p < 64 := vS14 p hp
          refine g_lv (lv' := [(3, .int (nI 1)), (5, .int (nI p)), (4, .int (bI (tHolds U j))), (0, .ref m), (1, .int (nI j)), (2, .int (bI w))]) (by rw [hp]; rfl) ?_
          refine g_aload_n (pc := 55) hX dX3_access_55 rfl 3 rfl ?_
          refine g_iload (pc := 56) hX dX3_access_56 1 rfl ?_
          refine g_iconst (pc := 58) (v := (nI 1)) hX dX3_access_58 (by decide) ?_
          refine g_top (y := (bI true)) (by decide) ?_
          refine g_ci (pc := 59) hX (wc := [(m, .inr (3, [.ref (am 0), .ref (am 1), .ref (am 2), .ref (am 3), .ref (am 4), .ref (am 5), .ref (am 6), .ref (am 7), .int r33, .int w33, .int u33.2.2.2.2.2.2])), (am 0, .inl (K.2.1, 2, .inl po)), (am 1, .inl (K.2.1, 2, .inl ca)), (am 2, .inl (K.2.1, 2, .inl u33.1)), (am 3, .inl (K.2.1, 8, .inl u33.2.1)), (am 4, .inl (K.2.1, 160, .inl u33.2.2.1)), (am 5, .inl (K.2.2.1, 128, .inl u33.2.2.2.1)), (am 6, .inl (K.2.2.1, 128, .inl u49.1)), (am 7, .inl (K.2.1, 6, .inl u49.2))]) (wr := []) (Wd' := fun u59 => [(m, .inr (3, [.ref (am 0), .ref (am 1), .ref (am 2), .ref (am 3), .ref (am 4), .ref (am 5), .ref (am 6), .ref (am 7), .int ((cAsk (S49, S33, r33, w33) p true).2.2.2.1), .int ((cAsk (S49, S33, r33, w33) p true).2.2.2.2), .int u59.2.2.2.2.2.2])), (am 0, .inl (K.2.1, 2, .inl po)), (am 1, .inl (K.2.1, 2, .inl ca)), (am 2, .inl (K.2.1, 2, .inl u59.1)), (am 3, .inl (K.2.1, 8, .inl u59.2.1)), (am 4, .inl (K.2.1, 160, .inl u59.2.2.1)), (am 5, .inl (K.2.2.1, 128, .inl u59.2.2.2.1)), (am 6, .inl (K.2.2.1, 128, .inl u59.2.2.2.2.1)), (am 7, .inl (K.2.1, 6, .inl u59.2.2.2.2.2.1))]) (g_goV (pc := 59) hX (As := [.int (nI p), .int (bI true)]) (stk := []) (wc := [(m, .inr (3, [.ref (am 0), .ref (am 1), .ref (am 2), .ref (am 3), .ref (am 4), .ref (am 5), .ref (am 6), .ref (am 7), .int r33, .int w33, .int u33.2.2.2.2.2.2])), (am 0, .inl (K.2.1, 2, .inl po)), (am 1, .inl (K.2.1, 2, .inl ca)), (am 2, .inl (K.2.1, 2, .inl u33.1)), (am 3, .inl (K.2.1, 8, .inl u33.2.1)), (am 4, .inl (K.2.1, 160, .inl u33.2.2.1)), (am 5, .inl (K.2.2.1, 128, .inl u33.2.2.2.1)), (am 6, .inl (K.2.2.1, 128, .inl u49.1)), (am 7, .inl (K.2.1, 6, .inl u49.2))]) (c_X3_askLower l K m am po ca u33.1 u33.2.1 u33.2.2.1 u33.2.2.2.1 u49.1 u49.2 r33 w33 u33.2.2.2.2.2.2 S49 S33 hM49 iS49 iS33_ p hp64 true) rfl rfl rfl gX3_access_X3_askLower nX3_askLowerV rfl 0 rfl ⟨(Nat.le_of_ble_eq_true rfl), (Nat.le_of_ble_eq_true rfl)⟩ [0, 1, 2, 3, 4, 5, 6, 7, 8] rfl rfl rfl (Nat.le_of_ble_eq_true rfl) dX3_access_59 ⟨(Nat.le_of_ble_eq_true rfl), (Nat.le_of_ble_eq_true rfl)⟩) [0, 1, 2, 3, 4, 5, 6, 7, 8] [] [0, 1, 2, 3, 4, 5, 6, 7, 8] rfl rfl rfl (by decide) rfl (fun _ => rfl) (fun r u59 h59 => ?_)
          obtain ⟨rfl, hM59, iS59_⟩ := h59
          obtain ⟨S59, hS59⟩ : ∃ z : TS, z = (cAsk (S49, S33, r33, w33) p true).2.2.1 := ⟨_, rfl⟩
          obtain ⟨r59, hr59⟩ : ∃ z : Int32, z = (cAsk (S49, S33, r33, w33) p true).2.2.2.1 := ⟨_, rfl⟩
          obtain ⟨w59, hw59⟩ : ∃ z : Int32, z = (cAsk (S49, S33, r33, w33) p true).2.2.2.2 := ⟨_, rfl⟩
          refine g_ws (ws' := [(m, .inr (3, [.ref (am 0), .ref (am 1), .ref (am 2), .ref (am 3), .ref (am 4), .ref (am 5), .ref (am 6), .ref (am 7), .int r59, .int w59, .int u59.2.2.2.2.2.2])), (am 0, .inl (K.2.1, 2, .inl po)), (am 1, .inl (K.2.1, 2, .inl ca)), (am 2, .inl (K.2.1, 2, .inl u59.1)), (am 3, .inl (K.2.1, 8, .inl u59.2.1)), (am 4, .inl (K.2.1, 160, .inl u59.2.2.1)), (am 5, .inl (K.2.2.1, 128, .inl u59.2.2.2.1)), (am 6, .inl (K.2.2.1, 128, .inl u59.2.2.2.2.1)), (am 7, .inl (K.2.1, 6, .inl u59.2.2.2.2.2.1))]) (by subst hr59 hw59; rfl) ?_
          rw [← hS59] at hM59 iS59_
          refine g_pop (pc := 62) hX dX3_access_62 rfl ?_
          refine g_aload_n (pc := 63) hX dX3_access_63 rfl 3 rfl ?_
          refine g_get (pc := 64) (C := RX3) (T := TX3) (N := 11) (ci := 3) (v := .ref (am 6)) hX inX3_access_X3 0 rfl rfl 6 (by decide) flX3_access_29 rfl rfl dX3_access_64 ?_
          refine g_iload_n (pc := 67) hX dX3_access_67 rfl 4 rfl ?_
          refine g_aload_n (pc := 68) hX dX3_access_68 rfl 3 rfl ?_
          refine g_get (pc := 69) (C := RX3) (T := TX3) (N := 11) (ci := 3) (v := .ref (am 6)) hX inX3_access_X3 0 rfl rfl 6 (by decide) flX3_access_29 rfl rfl dX3_access_69 ?_
          refine g_iload_n (pc := 72) hX dX3_access_72 rfl 4 rfl ?_
          refine g_zald (pc := 73) (v := (bI (S49.2.2.1.2 j))) hX 7 rfl (by omega) (by omega) (by have k := hM59.2.2.2.2.2.1 0 (by omega) j hj; rw [show 64 * 0 + j = j by omega] at k; exact k) dX3_access_73 ?_
          refine g_ifB_ne (pc := 74) (tgt := 81) hX dX3_access_74 (by decide) (fun c74 => ?_) (fun c74 => ?_)
          · refine g_iconst (pc := 81) (v := (nI 1)) hX dX3_access_81 (by decide) ?_
            refine g_goto (pc := 82) (tgt := 86) hX dX3_access_82 (by decide) ?_
            refine g_zast (pc := 86) (ws' := [(m, .inr (3, [.ref (am 0), .ref (am 1), .ref (am 2), .ref (am 3), .ref (am 4), .ref (am 5), .ref (am 6), .ref (am 7), .int r59, .int w59, .int u59.2.2.2.2.2.2])), (am 0, .inl (K.2.1, 2, .inl po)), (am 1, .inl (K.2.1, 2, .inl ca)), (am 2, .inl (K.2.1, 2, .inl u59.1)), (am 3, .inl (K.2.1, 8, .inl u59.2.1)), (am 4, .inl (K.2.1, 160, .inl u59.2.2.1)), (am 5, .inl (K.2.2.1, 128, .inl u59.2.2.2.1)), (am 6, .inl (K.2.2.1, 128, .inl (upd u59.2.2.2.2.1 j (nI 1)))), (am 7, .inl (K.2.1, 6, .inl u59.2.2.2.2.2.1))]) hX 7 rfl (by omega) (by omega) (by decide) rfl dX3_access_86 ?_
            obtain ⟨S87, hS87⟩ : ∃ z : TS, z = tDirty S49 j true := ⟨_, rfl⟩
            have hM87 : mR (sF S87 S59) po ca u59.1 u59.2.1 u59.2.2.1 u59.2.2.2.1 (upd u59.2.2.2.2.1 j (nI 1)) u59.2.2.2.2.2.1 := by
              have k := hM59.2.2.2.2.2.1.set (t := 0) (p := j) (by omega) hj true
              rw [show 64 * 0 + j = j by omega] at k
              have k2 := mR_set (t := 0) (S := tDirty S49 j true) hM59 (by omega) rfl rfl (hM59.2.2.1 0 (by omega)) (fun _ _ => rfl) (hM59.row (S := S49) rfl) (hM59.mk (S := S49) rfl) k (hM59.2.2.2.2.2.2 0 (by omega)) (fun _ _ => rfl)
              rw [sF_u0] at k2
              rw [hS87]
              exact k2
            have iS87 : tInv S87 := by rw [hS87]; exact iS49
            have hf87 : S87 = S49 := by rw [hS87]; exact tDirty_same c74
            refine g_iload_n (pc := 87) hX dX3_access_87 rfl 0 rfl ?_
            have e1 : cAcc1 (U, L, rd, wr) j = (S14, L, rd, wr) := by rw [hS14]; rfl
            have e2 : cAcc2 (U, L, rd, wr) j = (1, (S14, S33, r33, w33)) := by
              unfold cAcc2
              rw [if_neg (by rw [c27]; decide), e1, if_pos c36]
              subst hS33 hr33 hw33
              rfl
            have e3 : cAcc3 (S14, S33, r33, w33) (tTouch U j).1 = (S49, S59, r59, w59) := by
              show (if (tVic S14 (tTouch U j).1).1 = true then cDown (S14, S33, r33, w33) (tVic S14 (tTouch U j).1).2 (tTouch U j).1 else (S14, S33, r33, w33)) = _
              rw [if_pos c52, ← hS49, hp]
              subst hS59 hr59 hw59
              rfl
            have e : cAccess (U, L, rd, wr) (nI j) w = (1, (S87, S59, r59, w59)) := by
              unfold cAccess
              rw [if_pos (okPg_nI hj), nI_clamp (by omega)]
              unfold cAcc
              rw [e2]
              show (1, if w = true then (tDirty (cAcc3 (S14, S33, r33, w33) (tTouch U j).1).1 j true, (cAcc3 (S14, S33, r33, w33) (tTouch U j).1).2) else cAcc3 (S14, S33, r33, w33) (tTouch U j).1) = _
              rw [e3]
              show (1, if w = true then (tDirty S49 j true, (S59, r59, w59)) else (S49, (S59, r59, w59))) = _
              rw [hf87, tDirty_same c74, ite_self]
            rw [e] at hret
            exact hret (u := (u59.1, u59.2.1, u59.2.2.1, u59.2.2.2.1, upd u59.2.2.2.2.1 j (nI 1), u59.2.2.2.2.2.1, u59.2.2.2.2.2.2)) dX3_access_88 (⟨rfl, hM87⟩) rfl
          · refine g_iload_n (pc := 77) hX dX3_access_77 rfl 5 rfl ?_
            refine g_ifB_eq (pc := 78) (tgt := 85) hX dX3_access_78 (by decide) (fun c78 => ?_) (fun c78 => ?_)
            · refine g_iconst (pc := 85) (v := (nI 0)) hX dX3_access_85 (by decide) ?_
              refine g_zast (pc := 86) (ws' := [(m, .inr (3, [.ref (am 0), .ref (am 1), .ref (am 2), .ref (am 3), .ref (am 4), .ref (am 5), .ref (am 6), .ref (am 7), .int r59, .int w59, .int u59.2.2.2.2.2.2])), (am 0, .inl (K.2.1, 2, .inl po)), (am 1, .inl (K.2.1, 2, .inl ca)), (am 2, .inl (K.2.1, 2, .inl u59.1)), (am 3, .inl (K.2.1, 8, .inl u59.2.1)), (am 4, .inl (K.2.1, 160, .inl u59.2.2.1)), (am 5, .inl (K.2.2.1, 128, .inl u59.2.2.2.1)), (am 6, .inl (K.2.2.1, 128, .inl (upd u59.2.2.2.2.1 j (nI 0)))), (am 7, .inl (K.2.1, 6, .inl u59.2.2.2.2.2.1))]) hX 7 rfl (by omega) (by omega) (by decide) rfl dX3_access_86 ?_
              obtain ⟨S87, hS87⟩ : ∃ z : TS, z = tDirty S49 j false := ⟨_, rfl⟩
              have hM87 : mR (sF S87 S59) po ca u59.1 u59.2.1 u59.2.2.1 u59.2.2.2.1 (upd u59.2.2.2.2.1 j (nI 0)) u59.2.2.2.2.2.1 := by
                have k := hM59.2.2.2.2.2.1.set (t := 0) (p := j) (by omega) hj false
                rw [show 64 * 0 + j = j by omega] at k
                have k2 := mR_set (t := 0) (S := tDirty S49 j false) hM59 (by omega) rfl rfl (hM59.2.2.1 0 (by omega)) (fun _ _ => rfl) (hM59.row (S := S49) rfl) (hM59.mk (S := S49) rfl) k (hM59.2.2.2.2.2.2 0 (by omega)) (fun _ _ => rfl)
                rw [sF_u0] at k2
                rw [hS87]
                exact k2
              have iS87 : tInv S87 := by rw [hS87]; exact iS49
              have hf87 : S87 = S49 := by rw [hS87]; exact tDirty_same c74
              refine g_iload_n (pc := 87) hX dX3_access_87 rfl 0 rfl ?_
              have e1 : cAcc1 (U, L, rd, wr) j = (S14, L, rd, wr) := by rw [hS14]; rfl
              have e2 : cAcc2 (U, L, rd, wr) j = (1, (S14, S33, r33, w33)) := by
                unfold cAcc2
                rw [if_neg (by rw [c27]; decide), e1, if_pos c36]
                subst hS33 hr33 hw33
                rfl
              have e3 : cAcc3 (S14, S33, r33, w33) (tTouch U j).1 = (S49, S59, r59, w59) := by
                show (if (tVic S14 (tTouch U j).1).1 = true then cDown (S14, S33, r33, w33) (tVic S14 (tTouch U j).1).2 (tTouch U j).1 else (S14, S33, r33, w33)) = _
                rw [if_pos c52, ← hS49, hp]
                subst hS59 hr59 hw59
                rfl
              have e : cAccess (U, L, rd, wr) (nI j) w = (1, (S87, S59, r59, w59)) := by
                unfold cAccess
                rw [if_pos (okPg_nI hj), nI_clamp (by omega)]
                unfold cAcc
                rw [e2]
                show (1, if w = true then (tDirty (cAcc3 (S14, S33, r33, w33) (tTouch U j).1).1 j true, (cAcc3 (S14, S33, r33, w33) (tTouch U j).1).2) else cAcc3 (S14, S33, r33, w33) (tTouch U j).1) = _
                rw [e3]
                show (1, if w = true then (tDirty S49 j true, (S59, r59, w59)) else (S49, (S59, r59, w59))) = _
                rw [if_neg (by rw [c78]; decide), hf87]
              rw [e] at hret
              exact hret (u := (u59.1, u59.2.1, u59.2.2.1, u59.2.2.2.1, upd u59.2.2.2.2.1 j (nI 0), u59.2.2.2.2.2.1, u59.2.2.2.2.2.2)) dX3_access_88 (⟨rfl, hM87⟩) rfl
            · refine g_iconst (pc := 81) (v := (nI 1)) hX dX3_access_81 (by decide) ?_
              refine g_goto (pc := 82) (tgt := 86) hX dX3_access_82 (by decide) ?_
              refine g_zast (pc := 86) (ws' := [(m, .inr (3, [.ref (am 0), .ref (am 1), .ref (am 2), .ref (am 3), .ref (am 4), .ref (am 5), .ref (am 6), .ref (am 7), .int r59, .int w59, .int u59.2.2.2.2.2.2])), (am 0, .inl (K.2.1, 2, .inl po)), (am 1, .inl (K.2.1, 2, .inl ca)), (am 2, .inl (K.2.1, 2, .inl u59.1)), (am 3, .inl (K.2.1, 8, .inl u59.2.1)), (am 4, .inl (K.2.1, 160, .inl u59.2.2.1)), (am 5, .inl (K.2.2.1, 128, .inl u59.2.2.2.1)), (am 6, .inl (K.2.2.1, 128, .inl (upd u59.2.2.2.2.1 j (nI 1)))), (am 7, .inl (K.2.1, 6, .inl u59.2.2.2.2.2.1))]) hX 7 rfl (by omega) (by omega) (by decide) rfl dX3_access_86 ?_
              obtain ⟨S87, hS87⟩ : ∃ z : TS, z = tDirty S49 j true := ⟨_, rfl⟩
              have hM87 : mR (sF S87 S59) po ca u59.1 u59.2.1 u59.2.2.1 u59.2.2.2.1 (upd u59.2.2.2.2.1 j (nI 1)) u59.2.2.2.2.2.1 := by
                have k := hM59.2.2.2.2.2.1.set (t := 0) (p := j) (by omega) hj true
                rw [show 64 * 0 + j = j by omega] at k
                have k2 := mR_set (t := 0) (S := tDirty S49 j true) hM59 (by omega) rfl rfl (hM59.2.2.1 0 (by omega)) (fun _ _ => rfl) (hM59.row (S := S49) rfl) (hM59.mk (S := S49) rfl) k (hM59.2.2.2.2.2.2 0 (by omega)) (fun _ _ => rfl)
                rw [sF_u0] at k2
                rw [hS87]
                exact k2
              have iS87 : tInv S87 := by rw [hS87]; exact iS49
              refine g_iload_n (pc := 87) hX dX3_access_87 rfl 0 rfl ?_
              have e1 : cAcc1 (U, L, rd, wr) j = (S14, L, rd, wr) := by rw [hS14]; rfl
              have e2 : cAcc2 (U, L, rd, wr) j = (1, (S14, S33, r33, w33)) := by
                unfold cAcc2
                rw [if_neg (by rw [c27]; decide), e1, if_pos c36]
                subst hS33 hr33 hw33
                rfl
              have e3 : cAcc3 (S14, S33, r33, w33) (tTouch U j).1 = (S49, S59, r59, w59) := by
                show (if (tVic S14 (tTouch U j).1).1 = true then cDown (S14, S33, r33, w33) (tVic S14 (tTouch U j).1).2 (tTouch U j).1 else (S14, S33, r33, w33)) = _
                rw [if_pos c52, ← hS49, hp]
                subst hS59 hr59 hw59
                rfl
              have e : cAccess (U, L, rd, wr) (nI j) w = (1, (S87, S59, r59, w59)) := by
                unfold cAccess
                rw [if_pos (okPg_nI hj), nI_clamp (by omega)]
                unfold cAcc
                rw [e2]
                show (1, if w = true then (tDirty (cAcc3 (S14, S33, r33, w33) (tTouch U j).1).1 j true, (cAcc3 (S14, S33, r33, w33) (tTouch U j).1).2) else cAcc3 (S14, S33, r33, w33) (tTouch U j).1) = _
                rw [e3]
                show (1, if w = true then (tDirty S49 j true, (S59, r59, w59)) else (S49, (S59, r59, w59))) = _
                rw [if_pos c78, hS87]
              rw [e] at hret
              exact hret (u := (u59.1, u59.2.1, u59.2.2.1, u59.2.2.2.1, upd u59.2.2.2.2.1 j (nI 1), u59.2.2.2.2.2.1, u59.2.2.2.2.2.2)) dX3_access_88 (⟨rfl, hM87⟩) rfl
  · refine g_iconst (pc := 7) (v := (-1)) hX dX3_access_7 (by decide) ?_
    have e : cAccess (U, L, rd, wr) x w = (-1, (U, L, rd, wr)) := if_neg (by rw [c4]; decide)
    rw [e] at hret
    exact hret (u := (go, le, pg, mk, we, co, vi)) dX3_access_8 (⟨rfl, hM⟩) rfl
abbrev rmX3_flush : Room := { frames := 7, cells := 0, slots := 0, locals := 170 }
theorem flX3_flush_39 : Cond.fieldLink RX3 39 "TwoTierCacheModel" "writes" "I" ∈ wsX3_flush := by decide +kernel
theorem inX3_flush_X3 : ∀ w ∈ u_ws RX3 TX3 11, w ∈ wsX3_flush := by decide +kernel
theorem flX3_flush_29 : Cond.fieldLink RX3 29 "TwoTierCacheModel" "wet" "[Z" ∈ wsX3_flush := by decide +kernel
set_option maxHeartbeats 4000000 in
set_option maxRecDepth 100000 in
/-- flush -/
theorem c_X3_flush (l : Launch) (K : gT) (m : Nat) (am : Nat → Nat) (po ca go le pg mk we co : Nat → Int32) (rd wr vi : Int32) (U L : TS) (hM : mR (sF U L) po ca go le pg mk we co) (iU : tInv U) (iL : tInv L) : Ci l yX3_flush wsX3_flush rmX3_flush K [.ref m] (mW K m am po ca go le pg mk we co rd wr vi) (fun (r : Int32) (u : (Nat → Int32) × (Nat → Int32) × (Nat → Int32) × (Nat → Int32) × (Nat → Int32) × (Nat → Int32) × Int32) => r = (cFlush (U, L, rd, wr)).1 ∧ mR (sF (cFlush (U, L, rd, wr)).2.1 (cFlush (U, L, rd, wr)).2.2.1) po ca u.1 u.2.1 u.2.2.1 u.2.2.2.1 u.2.2.2.2.1 u.2.2.2.2.2.1) (fun u => mW K m am po ca u.1 u.2.1 u.2.2.1 u.2.2.2.1 u.2.2.2.2.1 u.2.2.2.2.2.1 ((cFlush (U, L, rd, wr)).2.2.2.1) ((cFlush (U, L, rd, wr)).2.2.2.2) u.2.2.2.2.2.2) 0 0 := by
  refine m_i (cc := cX3_flush) (own := RX3) (maxL := 3) (lv0 := [(0, .ref m)]) (by decide) rfl rfl (Nat.le_of_ble_eq_true rfl) rfl ?_
  intro X hX hin hret
  refine g_ws (ws' := [(m, .inr (3, [.ref (am 0), .ref (am 1), .ref (am 2), .ref (am 3), .ref (am 4), .ref (am 5), .ref (am 6), .ref (am 7), .int rd, .int wr, .int vi])), (am 0, .inl (K.2.1, 2, .inl po)), (am 1, .inl (K.2.1, 2, .inl ca)), (am 2, .inl (K.2.1, 2, .inl go)), (am 3, .inl (K.2.1, 8, .inl le)), (am 4, .inl (K.2.1, 160, .inl pg)), (am 5, .inl (K.2.2.1, 128, .inl mk)), (am 6, .inl (K.2.2.1, 128, .inl we)), (am 7, .inl (K.2.1, 6, .inl co))]) rfl ?_
  obtain ⟨E, hE⟩ : ∃ E : CS, E = cFl0 64 (U, L, rd, wr) := ⟨_, rfl⟩
  obtain ⟨F, hF⟩ : ∃ F : CS, F = cFl1 64 E := ⟨_, rfl⟩
  have e0 : cFlush (U, L, rd, wr) = (F.2.2.2 - wr, F) := by
    unfold cFlush
    rw [hF, hE]
  rw [e0] at hret
  have iE : cInv E := by rw [hE]; exact cFl0_inv ⟨iU, iL⟩ 64 (Nat.le_refl _)
  have loop2 : ∀ (z i : Nat) (go2 le2 pg2 mk2 we2 co2 : Nat → Int32) (vi2 : Int32), 64 - i < z → i ≤ 64 → mR (sF (cFl1 i E).1 (cFl1 i E).2.1) po ca go2 le2 pg2 mk2 we2 co2 → VG X l rmX3_flush K 3 0 0 (mW K m am po ca go2 le2 pg2 mk2 we2 co2 ((cFl1 i E).2.2.1) ((cFl1 i E).2.2.2) vi2) [(2, .int (nI i)), (1, .int wr), (0, .ref m)] [] 44 := by
    intro z
    induction z with
    | zero => intro i go2 le2 pg2 mk2 we2 co2 vi2 h1; exact absurd h1 (Nat.not_lt_zero _)
    | succ z ih =>
      intro i go2 le2 pg2 mk2 we2 co2 vi2 h1 h2 h3
      have h5 : cInv (cFl1 i E) := cFl1_inv iE i
      generalize hD : cFl1 i E = D at h3 h5 ⊢
      refine g_ws (ws' := [(m, .inr (3, [.ref (am 0), .ref (am 1), .ref (am 2), .ref (am 3), .ref (am 4), .ref (am 5), .ref (am 6), .ref (am 7), .int D.2.2.1, .int D.2.2.2, .int vi2])), (am 0, .inl (K.2.1, 2, .inl po)), (am 1, .inl (K.2.1, 2, .inl ca)), (am 2, .inl (K.2.1, 2, .inl go2)), (am 3, .inl (K.2.1, 8, .inl le2)), (am 4, .inl (K.2.1, 160, .inl pg2)), (am 5, .inl (K.2.2.1, 128, .inl mk2)), (am 6, .inl (K.2.2.1, 128, .inl we2)), (am 7, .inl (K.2.1, 6, .inl co2))]) rfl ?_
      refine g_iload_n (pc := 44) hX dX3_flush_44 rfl 0 rfl ?_
      refine g_bipush (pc := 45) (v := (nI 64)) hX dX3_flush_45 (by decide) ?_
      refine g_icmpN_ge (pc := 47) (tgt := 95) hX (by omega) (by omega) dX3_flush_47 (by decide) (fun c47 => ?_) (fun c47 => ?_)
      · have hDF : D = F := by rw [hF, ← hD, show i = 64 by omega]
        rw [← hDF] at hret
        refine g_aload_n (pc := 95) hX dX3_flush_95 rfl 2 rfl ?_
        refine g_get (pc := 96) (C := RX3) (T := TX3) (N := 11) (ci := 3) (v := .int D.2.2.2) hX inX3_flush_X3 0 rfl rfl 9 (by decide) flX3_flush_39 rfl rfl dX3_flush_96 ?_
        refine g_iload_n (pc := 99) hX dX3_flush_99 rfl 1 rfl ?_
        refine g_isub (pc := 100) (z := D.2.2.2 - wr) hX dX3_flush_100 rfl ?_
        exact hret (u := (go2, le2, pg2, mk2, we2, co2, vi2)) dX3_flush_101 (⟨rfl, h3⟩) rfl
      · refine g_aload_n (pc := 50) hX dX3_flush_50 rfl 2 rfl ?_
        refine g_aload_n (pc := 51) hX dX3_flush_51 rfl 2 rfl ?_
        refine g_get (pc := 52) (C := RX3) (T := TX3) (N := 11) (ci := 3) (v := .ref (am 6)) hX inX3_flush_X3 0 rfl rfl 6 (by decide) flX3_flush_29 rfl rfl dX3_flush_52 ?_
        refine g_bipush (pc := 55) (v := (nI 64)) hX dX3_flush_55 (by decide) ?_
        refine g_iload_n (pc := 57) hX dX3_flush_57 rfl 0 rfl ?_
        refine g_iaddN (pc := 58) (r := 64 + i) hX dX3_flush_58 (by first | rfl | omega) ?_
        refine g_zald (pc := 59) (v := (bI (D.2.1.2.2.1.2 i))) hX 7 rfl (by omega) (by omega) (h3.2.2.2.2.2.1 1 (by omega) i (by omega)) dX3_flush_59 ?_
        refine g_ifB_eq (pc := 60) (tgt := 72) hX dX3_flush_60 (by decide) (fun c60 => ?_) (fun c60 => ?_)
        · refine g_aload_n (pc := 72) hX dX3_flush_72 rfl 2 rfl ?_
          refine g_get (pc := 73) (C := RX3) (T := TX3) (N := 11) (ci := 3) (v := .int D.2.2.2) hX inX3_flush_X3 0 rfl rfl 9 (by decide) flX3_flush_39 rfl rfl dX3_flush_73 ?_
          refine g_put (pc := 76) (C := RX3) (T := TX3) (N := 11) (ci := 3) (v := .int D.2.2.2) (ws' := [(m, .inr (3, [.ref (am 0), .ref (am 1), .ref (am 2), .ref (am 3), .ref (am 4), .ref (am 5), .ref (am 6), .ref (am 7), .int D.2.2.1, .int D.2.2.2, .int vi2])), (am 0, .inl (K.2.1, 2, .inl po)), (am 1, .inl (K.2.1, 2, .inl ca)), (am 2, .inl (K.2.1, 2, .inl go2)), (am 3, .inl (K.2.1, 8, .inl le2)), (am 4, .inl (K.2.1, 160, .inl pg2)), (am 5, .inl (K.2.2.1, 128, .inl mk2)), (am 6, .inl (K.2.2.1, 128, .inl we2)), (am 7, .inl (K.2.1, 6, .inl co2))]) hX inX3_flush_X3 tyX3 tyX3_ok nmX3 0 rfl rfl 9 (by decide) flX3_flush_39 rfl rfl rfl rfl (Nat.le_of_ble_eq_true rfl) rfl dX3_flush_76 ?_
          refine g_aload_n (pc := 79) hX dX3_flush_79 rfl 2 rfl ?_
          refine g_get (pc := 80) (C := RX3) (T := TX3) (N := 11) (ci := 3) (v := .ref (am 6)) hX inX3_flush_X3 0 rfl rfl 6 (by decide) flX3_flush_29 rfl rfl dX3_flush_80 ?_
          refine g_bipush (pc := 83) (v := (nI 64)) hX dX3_flush_83 (by decide) ?_
          refine g_iload_n (pc := 85) hX dX3_flush_85 rfl 0 rfl ?_
          refine g_iaddN (pc := 86) (r := 64 + i) hX dX3_flush_86 (by first | rfl | omega) ?_
          refine g_iconst (pc := 87) (v := (nI 0)) hX dX3_flush_87 (by decide) ?_
          refine g_zast (pc := 88) (ws' := [(m, .inr (3, [.ref (am 0), .ref (am 1), .ref (am 2), .ref (am 3), .ref (am 4), .ref (am 5), .ref (am 6), .ref (am 7), .int D.2.2.1, .int D.2.2.2, .int vi2])), (am 0, .inl (K.2.1, 2, .inl po)), (am 1, .inl (K.2.1, 2, .inl ca)), (am 2, .inl (K.2.1, 2, .inl go2)), (am 3, .inl (K.2.1, 8, .inl le2)), (am 4, .inl (K.2.1, 160, .inl pg2)), (am 5, .inl (K.2.2.1, 128, .inl mk2)), (am 6, .inl (K.2.2.1, 128, .inl (upd we2 (64 + i) (nI 0)))), (am 7, .inl (K.2.1, 6, .inl co2))]) hX 7 rfl (by omega) (by omega) (by decide) rfl dX3_flush_88 ?_
          obtain ⟨S89, hS89⟩ : ∃ z : TS, z = tDirty D.2.1 i false := ⟨_, rfl⟩
          have hM89 : mR (sF D.1 S89) po ca go2 le2 pg2 mk2 (upd we2 (64 + i) (nI 0)) co2 := by
            have k := h3.2.2.2.2.2.1.set (t := 1) (p := i) (by omega) (by omega) false
            rw [show 64 * 1 + i = 64 + i by omega] at k
            have k2 := mR_set (t := 1) (S := tDirty D.2.1 i false) h3 (by omega) rfl rfl (h3.2.2.1 1 (by omega)) (fun _ _ => rfl) (h3.row (S := D.2.1) rfl) (h3.mk (S := D.2.1) rfl) k (h3.2.2.2.2.2.2 1 (by omega)) (fun _ _ => rfl)
            rw [sF_u1] at k2
            rw [hS89]
            exact k2
          have iS89 : tInv S89 := by rw [hS89]; exact h5.2
          have hf89 : S89 = D.2.1 := by rw [hS89]; exact tDirty_same c60
          refine g_iinc (pc := 89) (z := 0) (v := (nI (i + 1))) (lv' := [(2, .int (nI (i + 1))), (1, .int wr), (0, .ref m)]) hX dX3_flush_89 rfl (by first | exact nI_add _ _ | rfl) (by decide) rfl ?_
          refine g_goto (pc := 92) (tgt := 44) hX dX3_flush_92 (by decide) ?_
          refine g_sub [0, 1, 2] (lv' := [(2, .int (nI (i + 1))), (1, .int wr), (0, .ref m)]) rfl ?_
          have e : cFl1 (i + 1) E = (D.1, S89, D.2.2.1, D.2.2.2) := by
            rw [hf89]
            unfold cFl1
            rw [hD, if_neg (by rw [c60]; decide)]
          have ih2 := ih (i + 1) go2 le2 pg2 mk2 (upd we2 (64 + i) (nI 0)) co2 vi2 (by omega) (by omega) (by rw [e]; exact hM89)
          rw [e] at ih2
          exact ih2
        · refine g_aload_n (pc := 63) hX dX3_flush_63 rfl 2 rfl ?_
          refine g_get (pc := 64) (C := RX3) (T := TX3) (N := 11) (ci := 3) (v := .int D.2.2.2) hX inX3_flush_X3 0 rfl rfl 9 (by decide) flX3_flush_39 rfl rfl dX3_flush_64 ?_
          refine g_iconst (pc := 67) (v := (nI 1)) hX dX3_flush_67 (by decide) ?_
          refine g_iadd (pc := 68) (z := D.2.2.2 + 1) hX dX3_flush_68 rfl ?_
          refine g_goto (pc := 69) (tgt := 76) hX dX3_flush_69 (by decide) ?_
          refine g_put (pc := 76) (C := RX3) (T := TX3) (N := 11) (ci := 3) (v := .int (D.2.2.2 + 1)) (ws' := [(m, .inr (3, [.ref (am 0), .ref (am 1), .ref (am 2), .ref (am 3), .ref (am 4), .ref (am 5), .ref (am 6), .ref (am 7), .int D.2.2.1, .int (D.2.2.2 + 1), .int vi2])), (am 0, .inl (K.2.1, 2, .inl po)), (am 1, .inl (K.2.1, 2, .inl ca)), (am 2, .inl (K.2.1, 2, .inl go2)), (am 3, .inl (K.2.1, 8, .inl le2)), (am 4, .inl (K.2.1, 160, .inl pg2)), (am 5, .inl (K.2.2.1, 128, .inl mk2)), (am 6, .inl (K.2.2.1, 128, .inl we2)), (am 7, .inl (K.2.1, 6, .inl co2))]) hX inX3_flush_X3 tyX3 tyX3_ok nmX3 0 rfl rfl 9 (by decide) flX3_flush_39 rfl rfl rfl rfl (Nat.le_of_ble_eq_true rfl) rfl dX3_flush_76 ?_
          refine g_aload_n (pc := 79) hX dX3_flush_79 rfl 2 rfl ?_
          refine g_get (pc := 80) (C := RX3) (T := TX3) (N := 11) (ci := 3) (v := .ref (am 6)) hX inX3_flush_X3 0 rfl rfl 6 (by decide) flX3_flush_29 rfl rfl dX3_flush_80 ?_
          refine g_bipush (pc := 83) (v := (nI 64)) hX dX3_flush_83 (by decide) ?_
          refine g_iload_n (pc := 85) hX dX3_flush_85 rfl 0 rfl ?_
          refine g_iaddN (pc := 86) (r := 64 + i) hX dX3_flush_86 (by first | rfl | omega) ?_
          refine g_iconst (pc := 87) (v := (nI 0)) hX dX3_flush_87 (by decide) ?_
          refine g_zast (pc := 88) (ws' := [(m, .inr (3, [.ref (am 0), .ref (am 1), .ref (am 2), .ref (am 3), .ref (am 4), .ref (am 5), .ref (am 6), .ref (am 7), .int D.2.2.1, .int (D.2.2.2 + 1), .int vi2])), (am 0, .inl (K.2.1, 2, .inl po)), (am 1, .inl (K.2.1, 2, .inl ca)), (am 2, .inl (K.2.1, 2, .inl go2)), (am 3, .inl (K.2.1, 8, .inl le2)), (am 4, .inl (K.2.1, 160, .inl pg2)), (am 5, .inl (K.2.2.1, 128, .inl mk2)), (am 6, .inl (K.2.2.1, 128, .inl (upd we2 (64 + i) (nI 0)))), (am 7, .inl (K.2.1, 6, .inl co2))]) hX 7 rfl (by omega) (by omega) (by decide) rfl dX3_flush_88 ?_
          obtain ⟨S89, hS89⟩ : ∃ z : TS, z = tDirty D.2.1 i false := ⟨_, rfl⟩
          have hM89 : mR (sF D.1 S89) po ca go2 le2 pg2 mk2 (upd we2 (64 + i) (nI 0)) co2 := by
            have k := h3.2.2.2.2.2.1.set (t := 1) (p := i) (by omega) (by omega) false
            rw [show 64 * 1 + i = 64 + i by omega] at k
            have k2 := mR_set (t := 1) (S := tDirty D.2.1 i false) h3 (by omega) rfl rfl (h3.2.2.1 1 (by omega)) (fun _ _ => rfl) (h3.row (S := D.2.1) rfl) (h3.mk (S := D.2.1) rfl) k (h3.2.2.2.2.2.2 1 (by omega)) (fun _ _ => rfl)
            rw [sF_u1] at k2
            rw [hS89]
            exact k2
          have iS89 : tInv S89 := by rw [hS89]; exact h5.2
          refine g_iinc (pc := 89) (z := 0) (v := (nI (i + 1))) (lv' := [(2, .int (nI (i + 1))), (1, .int wr), (0, .ref m)]) hX dX3_flush_89 rfl (by first | exact nI_add _ _ | rfl) (by decide) rfl ?_
          refine g_goto (pc := 92) (tgt := 44) hX dX3_flush_92 (by decide) ?_
          refine g_sub [0, 1, 2] (lv' := [(2, .int (nI (i + 1))), (1, .int wr), (0, .ref m)]) rfl ?_
          have e : cFl1 (i + 1) E = (D.1, S89, D.2.2.1, D.2.2.2 + 1) := by
            unfold cFl1
            rw [hD, if_pos c60]
            subst hS89
            rfl
          have ih2 := ih (i + 1) go2 le2 pg2 mk2 (upd we2 (64 + i) (nI 0)) co2 vi2 (by omega) (by omega) (by rw [e]; exact hM89)
          rw [e] at ih2
          exact ih2
  have loop1 : ∀ (z i : Nat) (go2 le2 pg2 mk2 we2 co2 : Nat → Int32) (vi2 : Int32), 64 - i < z → i ≤ 64 → mR (sF (cFl0 i (U, L, rd, wr)).1 (cFl0 i (U, L, rd, wr)).2.1) po ca go2 le2 pg2 mk2 we2 co2 → VG X l rmX3_flush K 3 0 0 (mW K m am po ca go2 le2 pg2 mk2 we2 co2 ((cFl0 i (U, L, rd, wr)).2.2.1) ((cFl0 i (U, L, rd, wr)).2.2.2) vi2) [(2, .int (nI i)), (1, .int wr), (0, .ref m)] [] 7 := by
    intro z
    induction z with
    | zero => intro i go2 le2 pg2 mk2 we2 co2 vi2 h1; exact absurd h1 (Nat.not_lt_zero _)
    | succ z ih =>
      intro i go2 le2 pg2 mk2 we2 co2 vi2 h1 h2 h3
      have h5 : cInv (cFl0 i (U, L, rd, wr)) := cFl0_inv ⟨iU, iL⟩ i (by omega)
      generalize hD : cFl0 i (U, L, rd, wr) = D at h3 h5 ⊢
      refine g_ws (ws' := [(m, .inr (3, [.ref (am 0), .ref (am 1), .ref (am 2), .ref (am 3), .ref (am 4), .ref (am 5), .ref (am 6), .ref (am 7), .int D.2.2.1, .int D.2.2.2, .int vi2])), (am 0, .inl (K.2.1, 2, .inl po)), (am 1, .inl (K.2.1, 2, .inl ca)), (am 2, .inl (K.2.1, 2, .inl go2)), (am 3, .inl (K.2.1, 8, .inl le2)), (am 4, .inl (K.2.1, 160, .inl pg2)), (am 5, .inl (K.2.2.1, 128, .inl mk2)), (am 6, .inl (K.2.2.1, 128, .inl we2)), (am 7, .inl (K.2.1, 6, .inl co2))]) rfl ?_
      refine g_iload_n (pc := 7) hX dX3_flush_7 rfl 0 rfl ?_
      refine g_bipush (pc := 8) (v := (nI 64)) hX dX3_flush_8 (by decide) ?_
      refine g_icmpN_ge (pc := 10) (tgt := 42) hX (by omega) (by omega) dX3_flush_10 (by decide) (fun c10 => ?_) (fun c10 => ?_)
      · refine g_iconst (pc := 42) (v := (nI 0)) hX dX3_flush_42 (by decide) ?_
        refine g_istore_n (pc := 43) (lv' := [(2, .int (nI 0)), (1, .int wr), (0, .ref m)]) hX dX3_flush_43 rfl (by decide) rfl ?_
        have hDE : D = E := by rw [hE, ← hD, show i = 64 by omega]
        refine g_sub [0, 1, 2] (lv' := [(2, .int (nI 0)), (1, .int wr), (0, .ref m)]) rfl ?_
        have k := loop2 65 0 go2 le2 pg2 mk2 we2 co2 vi2 (by omega) (by omega) (by show mR (sF E.1 E.2.1) po ca go2 le2 pg2 mk2 we2 co2; rw [← hDE]; exact h3)
        rw [← hDE] at k
        exact k
      · refine g_aload_n (pc := 13) hX dX3_flush_13 rfl 2 rfl ?_
        refine g_get (pc := 14) (C := RX3) (T := TX3) (N := 11) (ci := 3) (v := .ref (am 6)) hX inX3_flush_X3 0 rfl rfl 6 (by decide) flX3_flush_29 rfl rfl dX3_flush_14 ?_
        refine g_iload_n (pc := 17) hX dX3_flush_17 rfl 0 rfl ?_
        refine g_zald (pc := 18) (v := (bI (D.1.2.2.1.2 i))) hX 7 rfl (by omega) (by omega) (by have k := h3.2.2.2.2.2.1 0 (by omega) i (by omega); rw [show 64 * 0 + i = i by omega] at k; exact k) dX3_flush_18 ?_
        refine g_ifB_eq (pc := 19) (tgt := 36) hX dX3_flush_19 (by decide) (fun c19 => ?_) (fun c19 => ?_)
        · refine g_iinc (pc := 36) (z := 0) (v := (nI (i + 1))) (lv' := [(2, .int (nI (i + 1))), (1, .int wr), (0, .ref m)]) hX dX3_flush_36 rfl (by first | exact nI_add _ _ | rfl) (by decide) rfl ?_
          refine g_goto (pc := 39) (tgt := 7) hX dX3_flush_39 (by decide) ?_
          refine g_sub [0, 1, 2] (lv' := [(2, .int (nI (i + 1))), (1, .int wr), (0, .ref m)]) rfl ?_
          have e : cFl0 (i + 1) (U, L, rd, wr) = D := by
            unfold cFl0
            rw [hD, if_neg (by rw [c19]; decide)]
          have ih2 := ih (i + 1) go2 le2 pg2 mk2 we2 co2 vi2 (by omega) (by omega) (by rw [e]; exact h3)
          rw [e] at ih2
          exact ih2
        · refine g_aload_n (pc := 22) hX dX3_flush_22 rfl 2 rfl ?_
          refine g_get (pc := 23) (C := RX3) (T := TX3) (N := 11) (ci := 3) (v := .ref (am 6)) hX inX3_flush_X3 0 rfl rfl 6 (by decide) flX3_flush_29 rfl rfl dX3_flush_23 ?_
          refine g_iload_n (pc := 26) hX dX3_flush_26 rfl 0 rfl ?_
          refine g_iconst (pc := 27) (v := (nI 0)) hX dX3_flush_27 (by decide) ?_
          refine g_zast (pc := 28) (ws' := [(m, .inr (3, [.ref (am 0), .ref (am 1), .ref (am 2), .ref (am 3), .ref (am 4), .ref (am 5), .ref (am 6), .ref (am 7), .int D.2.2.1, .int D.2.2.2, .int vi2])), (am 0, .inl (K.2.1, 2, .inl po)), (am 1, .inl (K.2.1, 2, .inl ca)), (am 2, .inl (K.2.1, 2, .inl go2)), (am 3, .inl (K.2.1, 8, .inl le2)), (am 4, .inl (K.2.1, 160, .inl pg2)), (am 5, .inl (K.2.2.1, 128, .inl mk2)), (am 6, .inl (K.2.2.1, 128, .inl (upd we2 i (nI 0)))), (am 7, .inl (K.2.1, 6, .inl co2))]) hX 7 rfl (by omega) (by omega) (by decide) rfl dX3_flush_28 ?_
          obtain ⟨S29, hS29⟩ : ∃ z : TS, z = tDirty D.1 i false := ⟨_, rfl⟩
          have hM29 : mR (sF S29 D.2.1) po ca go2 le2 pg2 mk2 (upd we2 i (nI 0)) co2 := by
            have k := h3.2.2.2.2.2.1.set (t := 0) (p := i) (by omega) (by omega) false
            rw [show 64 * 0 + i = i by omega] at k
            have k2 := mR_set (t := 0) (S := tDirty D.1 i false) h3 (by omega) rfl rfl (h3.2.2.1 0 (by omega)) (fun _ _ => rfl) (h3.row (S := D.1) rfl) (h3.mk (S := D.1) rfl) k (h3.2.2.2.2.2.2 0 (by omega)) (fun _ _ => rfl)
            rw [sF_u0] at k2
            rw [hS29]
            exact k2
          have iS29 : tInv S29 := by rw [hS29]; exact h5.1
          refine g_aload_n (pc := 29) hX dX3_flush_29 rfl 2 rfl ?_
          refine g_iload_n (pc := 30) hX dX3_flush_30 rfl 0 rfl ?_
          refine g_iconst (pc := 31) (v := (nI 1)) hX dX3_flush_31 (by decide) ?_
          refine g_top (y := (bI true)) (by decide) ?_
          refine g_ci (pc := 32) hX (wc := [(m, .inr (3, [.ref (am 0), .ref (am 1), .ref (am 2), .ref (am 3), .ref (am 4), .ref (am 5), .ref (am 6), .ref (am 7), .int D.2.2.1, .int D.2.2.2, .int vi2])), (am 0, .inl (K.2.1, 2, .inl po)), (am 1, .inl (K.2.1, 2, .inl ca)), (am 2, .inl (K.2.1, 2, .inl go2)), (am 3, .inl (K.2.1, 8, .inl le2)), (am 4, .inl (K.2.1, 160, .inl pg2)), (am 5, .inl (K.2.2.1, 128, .inl mk2)), (am 6, .inl (K.2.2.1, 128, .inl (upd we2 i (nI 0)))), (am 7, .inl (K.2.1, 6, .inl co2))]) (wr := []) (Wd' := fun u32 => [(m, .inr (3, [.ref (am 0), .ref (am 1), .ref (am 2), .ref (am 3), .ref (am 4), .ref (am 5), .ref (am 6), .ref (am 7), .int ((cAsk (S29, D.2.1, D.2.2.1, D.2.2.2) i true).2.2.2.1), .int ((cAsk (S29, D.2.1, D.2.2.1, D.2.2.2) i true).2.2.2.2), .int u32.2.2.2.2.2.2])), (am 0, .inl (K.2.1, 2, .inl po)), (am 1, .inl (K.2.1, 2, .inl ca)), (am 2, .inl (K.2.1, 2, .inl u32.1)), (am 3, .inl (K.2.1, 8, .inl u32.2.1)), (am 4, .inl (K.2.1, 160, .inl u32.2.2.1)), (am 5, .inl (K.2.2.1, 128, .inl u32.2.2.2.1)), (am 6, .inl (K.2.2.1, 128, .inl u32.2.2.2.2.1)), (am 7, .inl (K.2.1, 6, .inl u32.2.2.2.2.2.1))]) (g_goV (pc := 32) hX (As := [.int (nI i), .int (bI true)]) (stk := []) (wc := [(m, .inr (3, [.ref (am 0), .ref (am 1), .ref (am 2), .ref (am 3), .ref (am 4), .ref (am 5), .ref (am 6), .ref (am 7), .int D.2.2.1, .int D.2.2.2, .int vi2])), (am 0, .inl (K.2.1, 2, .inl po)), (am 1, .inl (K.2.1, 2, .inl ca)), (am 2, .inl (K.2.1, 2, .inl go2)), (am 3, .inl (K.2.1, 8, .inl le2)), (am 4, .inl (K.2.1, 160, .inl pg2)), (am 5, .inl (K.2.2.1, 128, .inl mk2)), (am 6, .inl (K.2.2.1, 128, .inl (upd we2 i (nI 0)))), (am 7, .inl (K.2.1, 6, .inl co2))]) (c_X3_askLower l K m am po ca go2 le2 pg2 mk2 (upd we2 i (nI 0)) co2 D.2.2.1 D.2.2.2 vi2 S29 D.2.1 hM29 iS29 h5.2 i (by omega) true) rfl rfl rfl gX3_flush_X3_askLower nX3_askLowerV rfl 0 rfl ⟨(Nat.le_of_ble_eq_true rfl), (Nat.le_of_ble_eq_true rfl)⟩ [0, 1, 2, 3, 4, 5, 6, 7, 8] rfl rfl rfl (Nat.le_of_ble_eq_true rfl) dX3_flush_32 ⟨(Nat.le_of_ble_eq_true rfl), (Nat.le_of_ble_eq_true rfl)⟩) [0, 1, 2, 3, 4, 5, 6, 7, 8] [] [0, 1, 2, 3, 4, 5, 6, 7, 8] rfl rfl rfl (by decide) rfl (fun _ => rfl) (fun r u32 h32 => ?_)
          obtain ⟨rfl, hM32, iS32_⟩ := h32
          obtain ⟨S32, hS32⟩ : ∃ z : TS, z = (cAsk (S29, D.2.1, D.2.2.1, D.2.2.2) i true).2.2.1 := ⟨_, rfl⟩
          obtain ⟨r32, hr32⟩ : ∃ z : Int32, z = (cAsk (S29, D.2.1, D.2.2.1, D.2.2.2) i true).2.2.2.1 := ⟨_, rfl⟩
          obtain ⟨w32, hw32⟩ : ∃ z : Int32, z = (cAsk (S29, D.2.1, D.2.2.1, D.2.2.2) i true).2.2.2.2 := ⟨_, rfl⟩
          refine g_ws (ws' := [(m, .inr (3, [.ref (am 0), .ref (am 1), .ref (am 2), .ref (am 3), .ref (am 4), .ref (am 5), .ref (am 6), .ref (am 7), .int r32, .int w32, .int u32.2.2.2.2.2.2])), (am 0, .inl (K.2.1, 2, .inl po)), (am 1, .inl (K.2.1, 2, .inl ca)), (am 2, .inl (K.2.1, 2, .inl u32.1)), (am 3, .inl (K.2.1, 8, .inl u32.2.1)), (am 4, .inl (K.2.1, 160, .inl u32.2.2.1)), (am 5, .inl (K.2.2.1, 128, .inl u32.2.2.2.1)), (am 6, .inl (K.2.2.1, 128, .inl u32.2.2.2.2.1)), (am 7, .inl (K.2.1, 6, .inl u32.2.2.2.2.2.1))]) (by subst hr32 hw32; rfl) ?_
          rw [← hS32] at hM32 iS32_
          refine g_pop (pc := 35) hX dX3_flush_35 rfl ?_
          refine g_iinc (pc := 36) (z := 0) (v := (nI (i + 1))) (lv' := [(2, .int (nI (i + 1))), (1, .int wr), (0, .ref m)]) hX dX3_flush_36 rfl (by first | exact nI_add _ _ | rfl) (by decide) rfl ?_
          refine g_goto (pc := 39) (tgt := 7) hX dX3_flush_39 (by decide) ?_
          refine g_sub [0, 1, 2] (lv' := [(2, .int (nI (i + 1))), (1, .int wr), (0, .ref m)]) rfl ?_
          have e : cFl0 (i + 1) (U, L, rd, wr) = (S29, S32, r32, w32) := by
            unfold cFl0
            rw [hD, if_pos c19]
            subst hS32 hr32 hw32 hS29
            rfl
          have ih2 := ih (i + 1) u32.1 u32.2.1 u32.2.2.1 u32.2.2.2.1 u32.2.2.2.2.1 u32.2.2.2.2.2.1 u32.2.2.2.2.2.2 (by omega) (by omega) (by rw [e]; exact hM32)
          rw [e] at ih2
          exact ih2
  refine g_aload_n (pc := 0) hX dX3_flush_0 rfl 0 rfl ?_
  refine g_get (pc := 1) (C := RX3) (T := TX3) (N := 11) (ci := 3) (v := .int wr) hX inX3_flush_X3 0 rfl rfl 9 (by decide) flX3_flush_39 rfl rfl dX3_flush_1 ?_
  refine g_istore_n (pc := 4) (lv' := [(1, .int wr), (0, .ref m)]) hX dX3_flush_4 rfl (by decide) rfl ?_
  refine g_iconst (pc := 5) (v := (nI 0)) hX dX3_flush_5 (by decide) ?_
  refine g_istore_n (pc := 6) (lv' := [(2, .int (nI 0)), (1, .int wr), (0, .ref m)]) hX dX3_flush_6 rfl (by decide) rfl ?_
  refine g_sub [0, 1, 2] (lv' := [(2, .int (nI 0)), (1, .int wr), (0, .ref m)]) rfl ?_
  exact loop1 65 0 go le pg mk we co vi (by omega) (by omega) hM
theorem okT_of {t : Int32} (h : okT t = true) : t = 0 ∨ t = 1 := by
  unfold okT at h
  rw [Bool.or_eq_true] at h
  exact h.elim (fun k => Or.inl (of_decide_eq_true k)) (fun k => Or.inr (of_decide_eq_true k))
theorem okT_no {t : Int32} (h : okT t = false) : ¬ t = 0 ∧ ¬ t = 1 := by
  unfold okT at h
  rw [Bool.or_eq_false_iff] at h
  exact ⟨of_decide_eq_false h.1, of_decide_eq_false h.2⟩
abbrev rmX3_resident : Room := { frames := 2, cells := 0, slots := 0, locals := 45 }
theorem nX3_isTierS : yX3_isTier.cls ≠ "java/lang/invoke/MethodHandle" ∧ yX3_isTier.cls ≠ "java/lang/invoke/VarHandle" ∧ (parseMethodDescriptor yX3_isTier.desc).map (fun d => d.parameters.length) = some 1 := by decide +kernel
theorem flX3_resident_7 : Cond.fieldLink RX3 7 "TwoTierCacheModel" "policies" "[I" ∈ wsX3_resident := by decide +kernel
theorem inX3_resident_X3 : ∀ w ∈ u_ws RX3 TX3 11, w ∈ wsX3_resident := by decide +kernel
set_option maxHeartbeats 4000000 in
set_option maxRecDepth 100000 in
/-- resident -/
theorem c_X3_resident (l : Launch) (K : gT) (m : Nat) (am : Nat → Nat) (po ca go le pg mk we co : Nat → Int32) (rd wr vi : Int32) (U L : TS) (hM : mR (sF U L) po ca go le pg mk we co) (iU : tInv U) (iL : tInv L) (t x : Int32) : Ci l yX3_resident wsX3_resident rmX3_resident K [.ref m, .int t, .int x] (mW K m am po ca go le pg mk we co rd wr vi) (fun (r : Int32) (u : Unit) => r = bI (cRes (U, L, rd, wr) t x)) (fun u => mW K m am po ca go le pg mk we co rd wr vi) 0 0 := by
  refine m_z (cc := cX3_resident) (own := RX3) (maxL := 5) (lv0 := [(0, .ref m), (1, .int t), (2, .int x)]) (by decide) rfl rfl (Nat.le_of_ble_eq_true rfl) rfl ?_
  intro X hX hin hret
  refine g_ws (ws' := [(m, .inr (3, [.ref (am 0), .ref (am 1), .ref (am 2), .ref (am 3), .ref (am 4), .ref (am 5), .ref (am 6), .ref (am 7), .int rd, .int wr, .int vi])), (am 0, .inl (K.2.1, 2, .inl po)), (am 1, .inl (K.2.1, 2, .inl ca)), (am 2, .inl (K.2.1, 2, .inl go)), (am 3, .inl (K.2.1, 8, .inl le)), (am 4, .inl (K.2.1, 160, .inl pg)), (am 5, .inl (K.2.2.1, 128, .inl mk)), (am 6, .inl (K.2.2.1, 128, .inl we)), (am 7, .inl (K.2.1, 6, .inl co))]) rfl ?_
  have hpU := iU.1.2.2.1
  have hpL := iL.1.2.2.1
  refine g_iload_n (pc := 0) hX dX3_resident_0 rfl 1 rfl ?_
  refine g_ci (pc := 1) hX (wc := []) (wr := [(m, .inr (3, [.ref (am 0), .ref (am 1), .ref (am 2), .ref (am 3), .ref (am 4), .ref (am 5), .ref (am 6), .ref (am 7), .int rd, .int wr, .int vi])), (am 0, .inl (K.2.1, 2, .inl po)), (am 1, .inl (K.2.1, 2, .inl ca)), (am 2, .inl (K.2.1, 2, .inl go)), (am 3, .inl (K.2.1, 8, .inl le)), (am 4, .inl (K.2.1, 160, .inl pg)), (am 5, .inl (K.2.2.1, 128, .inl mk)), (am 6, .inl (K.2.2.1, 128, .inl we)), (am 7, .inl (K.2.1, 6, .inl co))]) (Wd' := fun u => [(m, .inr (3, [.ref (am 0), .ref (am 1), .ref (am 2), .ref (am 3), .ref (am 4), .ref (am 5), .ref (am 6), .ref (am 7), .int rd, .int wr, .int vi])), (am 0, .inl (K.2.1, 2, .inl po)), (am 1, .inl (K.2.1, 2, .inl ca)), (am 2, .inl (K.2.1, 2, .inl go)), (am 3, .inl (K.2.1, 8, .inl le)), (am 4, .inl (K.2.1, 160, .inl pg)), (am 5, .inl (K.2.2.1, 128, .inl mk)), (am 6, .inl (K.2.2.1, 128, .inl we)), (am 7, .inl (K.2.1, 6, .inl co))]) (g_goS (pc := 1) hX (As := [.int t]) (stk := []) (wc := []) (c_X3_isTier l K t) rfl rfl rfl gX3_resident_X3_isTier nX3_isTierS ⟨(Nat.le_of_ble_eq_true rfl), (Nat.le_of_ble_eq_true rfl)⟩ [] rfl rfl rfl (Nat.le_of_ble_eq_true rfl) dX3_resident_1 ⟨(Nat.le_of_ble_eq_true rfl), (Nat.le_of_ble_eq_true rfl)⟩) [] [0, 1, 2, 3, 4, 5, 6, 7, 8] [0, 1, 2, 3, 4, 5, 6, 7, 8] rfl rfl rfl (by decide) rfl (fun _ => rfl) (fun r u h1 => ?_)
  obtain rfl := h1
  refine g_ifB_eq (pc := 4) (tgt := 14) hX dX3_resident_4 (by decide) (fun c4 => ?_) (fun c4 => ?_)
  · obtain ⟨n0, n1⟩ := okT_no c4
    refine g_iconst (pc := 14) (v := (nI 0)) hX dX3_resident_14 (by decide) ?_
    refine g_top (y := bI false) (by decide) ?_
    exact hret (v := false) (u := ()) dX3_resident_15 (by rw [show cRes (U, L, rd, wr) t (x) = false from by unfold cRes cTier; rw [if_neg n0, if_neg n1]]) rfl
  · rcases okT_of c4 with e0 | e1
    · subst e0
      refine g_lv (lv' := [(0, .ref m), (1, .int (nI 0)), (2, .int x)]) rfl ?_
      refine g_iload_n (pc := 7) hX dX3_resident_7 rfl 2 rfl ?_
      refine g_ci (pc := 8) hX (wc := []) (wr := [(m, .inr (3, [.ref (am 0), .ref (am 1), .ref (am 2), .ref (am 3), .ref (am 4), .ref (am 5), .ref (am 6), .ref (am 7), .int rd, .int wr, .int vi])), (am 0, .inl (K.2.1, 2, .inl po)), (am 1, .inl (K.2.1, 2, .inl ca)), (am 2, .inl (K.2.1, 2, .inl go)), (am 3, .inl (K.2.1, 8, .inl le)), (am 4, .inl (K.2.1, 160, .inl pg)), (am 5, .inl (K.2.2.1, 128, .inl mk)), (am 6, .inl (K.2.2.1, 128, .inl we)), (am 7, .inl (K.2.1, 6, .inl co))]) (Wd' := fun u => [(m, .inr (3, [.ref (am 0), .ref (am 1), .ref (am 2), .ref (am 3), .ref (am 4), .ref (am 5), .ref (am 6), .ref (am 7), .int rd, .int wr, .int vi])), (am 0, .inl (K.2.1, 2, .inl po)), (am 1, .inl (K.2.1, 2, .inl ca)), (am 2, .inl (K.2.1, 2, .inl go)), (am 3, .inl (K.2.1, 8, .inl le)), (am 4, .inl (K.2.1, 160, .inl pg)), (am 5, .inl (K.2.2.1, 128, .inl mk)), (am 6, .inl (K.2.2.1, 128, .inl we)), (am 7, .inl (K.2.1, 6, .inl co))]) (g_goS (pc := 8) hX (As := [.int x]) (stk := []) (wc := []) (c_X3_isPage l K x) rfl rfl rfl gX3_resident_X3_isPage nX3_isPageS ⟨(Nat.le_of_ble_eq_true rfl), (Nat.le_of_ble_eq_true rfl)⟩ [] rfl rfl rfl (Nat.le_of_ble_eq_true rfl) dX3_resident_8 ⟨(Nat.le_of_ble_eq_true rfl), (Nat.le_of_ble_eq_true rfl)⟩) [] [0, 1, 2, 3, 4, 5, 6, 7, 8] [0, 1, 2, 3, 4, 5, 6, 7, 8] rfl rfl rfl (by decide) rfl (fun _ => rfl) (fun r u h8 => ?_)
      obtain rfl := h8
      refine g_ifB_ne (pc := 11) (tgt := 16) hX dX3_resident_11 (by decide) (fun c11 => ?_) (fun c11 => ?_)
      · obtain ⟨j, hj, rfl⟩ := okPg_of c11
        refine g_iconst (pc := 16) (v := (nI 4)) hX dX3_resident_16 (by decide) ?_
        refine g_iload_n (pc := 17) hX dX3_resident_17 rfl 1 rfl ?_
        refine g_imulN (pc := 18) (r := 0) hX dX3_resident_18 (by first | rfl | omega) ?_
        refine g_istore_n (pc := 19) (lv' := [(3, .int (nI 0)), (0, .ref m), (1, .int (nI 0)), (2, .int (nI j))]) hX dX3_resident_19 rfl (by decide) rfl ?_
        refine g_aload_n (pc := 20) hX dX3_resident_20 rfl 1 rfl ?_
        refine g_get (pc := 21) (C := RX3) (T := TX3) (N := 11) (ci := 3) (v := .ref (am 0)) hX inX3_resident_X3 0 rfl rfl 0 (by decide) flX3_resident_7 rfl rfl dX3_resident_21 ?_
        refine g_iload_n (pc := 24) hX dX3_resident_24 rfl 2 rfl ?_
        refine g_iald (pc := 25) (v := (nI U.1.1)) hX 1 rfl (by omega) (by omega) (hM.1 0 (by omega)) dX3_resident_25 ?_
        refine g_iconst (pc := 26) (v := (nI 2)) hX dX3_resident_26 (by decide) ?_
        refine g_icmpN_ne (pc := 27) (tgt := 36) hX (by omega) (by omega) dX3_resident_27 (by decide) (fun c27 => ?_) (fun c27 => ?_)
        · refine g_aload_n (pc := 36) hX dX3_resident_36 rfl 1 rfl ?_
          refine g_get (pc := 37) (C := RX3) (T := TX3) (N := 11) (ci := 3) (v := .ref (am 0)) hX inX3_resident_X3 0 rfl rfl 0 (by decide) flX3_resident_7 rfl rfl dX3_resident_37 ?_
          refine g_iload_n (pc := 40) hX dX3_resident_40 rfl 2 rfl ?_
          refine g_iald (pc := 41) (v := (nI U.1.1)) hX 1 rfl (by omega) (by omega) (hM.1 0 (by omega)) dX3_resident_41 ?_
          refine g_iconst (pc := 42) (v := (nI 3)) hX dX3_resident_42 (by decide) ?_
          refine g_icmpN_ne (pc := 43) (tgt := 52) hX (by omega) (by omega) dX3_resident_43 (by decide) (fun c43 => ?_) (fun c43 => ?_)
          · refine g_iload_n (pc := 52) hX dX3_resident_52 rfl 0 rfl ?_
            refine g_istore (pc := 53) (lv' := [(4, .int (nI 0)), (3, .int (nI 0)), (0, .ref m), (1, .int (nI 0)), (2, .int (nI j))]) hX dX3_resident_53 (by decide) rfl ?_
            refine g_aload_n (pc := 55) hX dX3_resident_55 rfl 2 rfl ?_
            refine g_iload_n (pc := 56) hX dX3_resident_56 rfl 1 rfl ?_
            refine g_iload_n (pc := 57) hX dX3_resident_57 rfl 4 rfl ?_
            refine g_ci (pc := 58) hX (wc := [(m, .inr (3, [.ref (am 0), .ref (am 1), .ref (am 2), .ref (am 3), .ref (am 4), .ref (am 5), .ref (am 6), .ref (am 7), .int rd, .int wr, .int vi])), (am 0, .inl (K.2.1, 2, .inl po)), (am 1, .inl (K.2.1, 2, .inl ca)), (am 2, .inl (K.2.1, 2, .inl go)), (am 3, .inl (K.2.1, 8, .inl le)), (am 4, .inl (K.2.1, 160, .inl pg)), (am 5, .inl (K.2.2.1, 128, .inl mk)), (am 6, .inl (K.2.2.1, 128, .inl we)), (am 7, .inl (K.2.1, 6, .inl co))]) (wr := []) (Wd' := fun u => [(m, .inr (3, [.ref (am 0), .ref (am 1), .ref (am 2), .ref (am 3), .ref (am 4), .ref (am 5), .ref (am 6), .ref (am 7), .int rd, .int wr, .int vi])), (am 0, .inl (K.2.1, 2, .inl po)), (am 1, .inl (K.2.1, 2, .inl ca)), (am 2, .inl (K.2.1, 2, .inl go)), (am 3, .inl (K.2.1, 8, .inl le)), (am 4, .inl (K.2.1, 160, .inl pg)), (am 5, .inl (K.2.2.1, 128, .inl mk)), (am 6, .inl (K.2.2.1, 128, .inl we)), (am 7, .inl (K.2.1, 6, .inl co))]) (g_goV (pc := 58) hX (As := [.int (nI 0), .int (nI j)]) (stk := []) (wc := [(m, .inr (3, [.ref (am 0), .ref (am 1), .ref (am 2), .ref (am 3), .ref (am 4), .ref (am 5), .ref (am 6), .ref (am 7), .int rd, .int wr, .int vi])), (am 0, .inl (K.2.1, 2, .inl po)), (am 1, .inl (K.2.1, 2, .inl ca)), (am 2, .inl (K.2.1, 2, .inl go)), (am 3, .inl (K.2.1, 8, .inl le)), (am 4, .inl (K.2.1, 160, .inl pg)), (am 5, .inl (K.2.2.1, 128, .inl mk)), (am 6, .inl (K.2.2.1, 128, .inl we)), (am 7, .inl (K.2.1, 6, .inl co))]) (c_X3_isIn l K m am po ca go le pg mk we co rd wr vi (rowsF (sF U L)) hM.2.2.2.1 0 (by omega) j hj) rfl rfl rfl gX3_resident_X3_isIn nX3_isInV rfl 0 rfl ⟨(Nat.le_of_ble_eq_true rfl), (Nat.le_of_ble_eq_true rfl)⟩ [0, 1, 2, 3, 4, 5, 6, 7, 8] rfl rfl rfl (Nat.le_of_ble_eq_true rfl) dX3_resident_58 ⟨(Nat.le_of_ble_eq_true rfl), (Nat.le_of_ble_eq_true rfl)⟩) [0, 1, 2, 3, 4, 5, 6, 7, 8] [] [0, 1, 2, 3, 4, 5, 6, 7, 8] rfl rfl rfl (by decide) rfl (fun _ => rfl) (fun r u h58 => ?_)
            obtain rfl := h58
            refine g_top (y := (bI (decide (j ∈ U.2.1.1)))) rfl ?_
            refine g_ifB_ne (pc := 61) (tgt := 74) hX dX3_resident_61 (by decide) (fun c61 => ?_) (fun c61 => ?_)
            · refine g_iconst (pc := 74) (v := (nI 1)) hX dX3_resident_74 (by decide) ?_
              refine g_goto (pc := 75) (tgt := 79) hX dX3_resident_75 (by decide) ?_
              refine g_top (y := bI true) (by decide) ?_
              exact hret (v := true) (u := ()) dX3_resident_79 (by rw [show cRes (U, L, rd, wr) 0 (nI j) = true from by unfold cRes cTier; rw [if_pos rfl]; show (okPg (nI j) && sHolds U.1.1 U.2.1.1 U.2.1.2.1 U.2.1.2.2.1 (nI j).toNatClampNeg) = true; rw [okPg_nI hj, nI_clamp (by omega)]; unfold sHolds; rw [c61]; rfl]) rfl
            · refine g_aload_n (pc := 64) hX dX3_resident_64 rfl 2 rfl ?_
              refine g_iload (pc := 65) hX dX3_resident_65 0 rfl ?_
              refine g_iload_n (pc := 67) hX dX3_resident_67 rfl 4 rfl ?_
              refine g_ci (pc := 68) hX (wc := [(m, .inr (3, [.ref (am 0), .ref (am 1), .ref (am 2), .ref (am 3), .ref (am 4), .ref (am 5), .ref (am 6), .ref (am 7), .int rd, .int wr, .int vi])), (am 0, .inl (K.2.1, 2, .inl po)), (am 1, .inl (K.2.1, 2, .inl ca)), (am 2, .inl (K.2.1, 2, .inl go)), (am 3, .inl (K.2.1, 8, .inl le)), (am 4, .inl (K.2.1, 160, .inl pg)), (am 5, .inl (K.2.2.1, 128, .inl mk)), (am 6, .inl (K.2.2.1, 128, .inl we)), (am 7, .inl (K.2.1, 6, .inl co))]) (wr := []) (Wd' := fun u => [(m, .inr (3, [.ref (am 0), .ref (am 1), .ref (am 2), .ref (am 3), .ref (am 4), .ref (am 5), .ref (am 6), .ref (am 7), .int rd, .int wr, .int vi])), (am 0, .inl (K.2.1, 2, .inl po)), (am 1, .inl (K.2.1, 2, .inl ca)), (am 2, .inl (K.2.1, 2, .inl go)), (am 3, .inl (K.2.1, 8, .inl le)), (am 4, .inl (K.2.1, 160, .inl pg)), (am 5, .inl (K.2.2.1, 128, .inl mk)), (am 6, .inl (K.2.2.1, 128, .inl we)), (am 7, .inl (K.2.1, 6, .inl co))]) (g_goV (pc := 68) hX (As := [.int (nI 0), .int (nI j)]) (stk := []) (wc := [(m, .inr (3, [.ref (am 0), .ref (am 1), .ref (am 2), .ref (am 3), .ref (am 4), .ref (am 5), .ref (am 6), .ref (am 7), .int rd, .int wr, .int vi])), (am 0, .inl (K.2.1, 2, .inl po)), (am 1, .inl (K.2.1, 2, .inl ca)), (am 2, .inl (K.2.1, 2, .inl go)), (am 3, .inl (K.2.1, 8, .inl le)), (am 4, .inl (K.2.1, 160, .inl pg)), (am 5, .inl (K.2.2.1, 128, .inl mk)), (am 6, .inl (K.2.2.1, 128, .inl we)), (am 7, .inl (K.2.1, 6, .inl co))]) (c_X3_isIn l K m am po ca go le pg mk we co rd wr vi (rowsF (sF U L)) hM.2.2.2.1 0 (by omega) j hj) rfl rfl rfl gX3_resident_X3_isIn nX3_isInV rfl 0 rfl ⟨(Nat.le_of_ble_eq_true rfl), (Nat.le_of_ble_eq_true rfl)⟩ [0, 1, 2, 3, 4, 5, 6, 7, 8] rfl rfl rfl (Nat.le_of_ble_eq_true rfl) dX3_resident_68 ⟨(Nat.le_of_ble_eq_true rfl), (Nat.le_of_ble_eq_true rfl)⟩) [0, 1, 2, 3, 4, 5, 6, 7, 8] [] [0, 1, 2, 3, 4, 5, 6, 7, 8] rfl rfl rfl (by decide) rfl (fun _ => rfl) (fun r u h68 => ?_)
              obtain rfl := h68
              refine g_top (y := (bI (decide (j ∈ U.2.1.1)))) rfl ?_
              refine g_ifB_eq (pc := 71) (tgt := 78) hX dX3_resident_71 (by decide) (fun c71 => ?_) (fun c71 => ?_)
              · refine g_iconst (pc := 78) (v := (nI 0)) hX dX3_resident_78 (by decide) ?_
                refine g_top (y := bI false) (by decide) ?_
                exact hret (v := false) (u := ()) dX3_resident_79 (by rw [show cRes (U, L, rd, wr) 0 (nI j) = false from by unfold cRes cTier; rw [if_pos rfl]; show (okPg (nI j) && sHolds U.1.1 U.2.1.1 U.2.1.2.1 U.2.1.2.2.1 (nI j).toNatClampNeg) = false; rw [okPg_nI hj, nI_clamp (by omega)]; unfold sHolds; rw [c61, if_neg c27, (iU.1.2.2.2.2.1 (by have := iU.1.2.2.1; omega)).2.1, mem_nil_f]; rfl]) rfl
              · refine g_iconst (pc := 74) (v := (nI 1)) hX dX3_resident_74 (by decide) ?_
                refine g_goto (pc := 75) (tgt := 79) hX dX3_resident_75 (by decide) ?_
                refine g_top (y := bI true) (by decide) ?_
                rw [c61] at c71
                cases c71
          · refine g_iload_n (pc := 46) hX dX3_resident_46 rfl 0 rfl ?_
            refine g_iconst (pc := 47) (v := (nI 1)) hX dX3_resident_47 (by decide) ?_
            refine g_iaddN (pc := 48) (r := 1) hX dX3_resident_48 (by first | rfl | omega) ?_
            refine g_goto (pc := 49) (tgt := 53) hX dX3_resident_49 (by decide) ?_
            refine g_istore (pc := 53) (lv' := [(4, .int (nI 1)), (3, .int (nI 0)), (0, .ref m), (1, .int (nI 0)), (2, .int (nI j))]) hX dX3_resident_53 (by decide) rfl ?_
            refine g_aload_n (pc := 55) hX dX3_resident_55 rfl 2 rfl ?_
            refine g_iload_n (pc := 56) hX dX3_resident_56 rfl 1 rfl ?_
            refine g_iload_n (pc := 57) hX dX3_resident_57 rfl 4 rfl ?_
            refine g_ci (pc := 58) hX (wc := [(m, .inr (3, [.ref (am 0), .ref (am 1), .ref (am 2), .ref (am 3), .ref (am 4), .ref (am 5), .ref (am 6), .ref (am 7), .int rd, .int wr, .int vi])), (am 0, .inl (K.2.1, 2, .inl po)), (am 1, .inl (K.2.1, 2, .inl ca)), (am 2, .inl (K.2.1, 2, .inl go)), (am 3, .inl (K.2.1, 8, .inl le)), (am 4, .inl (K.2.1, 160, .inl pg)), (am 5, .inl (K.2.2.1, 128, .inl mk)), (am 6, .inl (K.2.2.1, 128, .inl we)), (am 7, .inl (K.2.1, 6, .inl co))]) (wr := []) (Wd' := fun u => [(m, .inr (3, [.ref (am 0), .ref (am 1), .ref (am 2), .ref (am 3), .ref (am 4), .ref (am 5), .ref (am 6), .ref (am 7), .int rd, .int wr, .int vi])), (am 0, .inl (K.2.1, 2, .inl po)), (am 1, .inl (K.2.1, 2, .inl ca)), (am 2, .inl (K.2.1, 2, .inl go)), (am 3, .inl (K.2.1, 8, .inl le)), (am 4, .inl (K.2.1, 160, .inl pg)), (am 5, .inl (K.2.2.1, 128, .inl mk)), (am 6, .inl (K.2.2.1, 128, .inl we)), (am 7, .inl (K.2.1, 6, .inl co))]) (g_goV (pc := 58) hX (As := [.int (nI 0), .int (nI j)]) (stk := []) (wc := [(m, .inr (3, [.ref (am 0), .ref (am 1), .ref (am 2), .ref (am 3), .ref (am 4), .ref (am 5), .ref (am 6), .ref (am 7), .int rd, .int wr, .int vi])), (am 0, .inl (K.2.1, 2, .inl po)), (am 1, .inl (K.2.1, 2, .inl ca)), (am 2, .inl (K.2.1, 2, .inl go)), (am 3, .inl (K.2.1, 8, .inl le)), (am 4, .inl (K.2.1, 160, .inl pg)), (am 5, .inl (K.2.2.1, 128, .inl mk)), (am 6, .inl (K.2.2.1, 128, .inl we)), (am 7, .inl (K.2.1, 6, .inl co))]) (c_X3_isIn l K m am po ca go le pg mk we co rd wr vi (rowsF (sF U L)) hM.2.2.2.1 0 (by omega) j hj) rfl rfl rfl gX3_resident_X3_isIn nX3_isInV rfl 0 rfl ⟨(Nat.le_of_ble_eq_true rfl), (Nat.le_of_ble_eq_true rfl)⟩ [0, 1, 2, 3, 4, 5, 6, 7, 8] rfl rfl rfl (Nat.le_of_ble_eq_true rfl) dX3_resident_58 ⟨(Nat.le_of_ble_eq_true rfl), (Nat.le_of_ble_eq_true rfl)⟩) [0, 1, 2, 3, 4, 5, 6, 7, 8] [] [0, 1, 2, 3, 4, 5, 6, 7, 8] rfl rfl rfl (by decide) rfl (fun _ => rfl) (fun r u h58 => ?_)
            obtain rfl := h58
            refine g_top (y := (bI (decide (j ∈ U.2.1.1)))) rfl ?_
            refine g_ifB_ne (pc := 61) (tgt := 74) hX dX3_resident_61 (by decide) (fun c61 => ?_) (fun c61 => ?_)
            · refine g_iconst (pc := 74) (v := (nI 1)) hX dX3_resident_74 (by decide) ?_
              refine g_goto (pc := 75) (tgt := 79) hX dX3_resident_75 (by decide) ?_
              refine g_top (y := bI true) (by decide) ?_
              exact hret (v := true) (u := ()) dX3_resident_79 (by rw [show cRes (U, L, rd, wr) 0 (nI j) = true from by unfold cRes cTier; rw [if_pos rfl]; show (okPg (nI j) && sHolds U.1.1 U.2.1.1 U.2.1.2.1 U.2.1.2.2.1 (nI j).toNatClampNeg) = true; rw [okPg_nI hj, nI_clamp (by omega)]; unfold sHolds; rw [c61]; rfl]) rfl
            · refine g_aload_n (pc := 64) hX dX3_resident_64 rfl 2 rfl ?_
              refine g_iload (pc := 65) hX dX3_resident_65 0 rfl ?_
              refine g_iload_n (pc := 67) hX dX3_resident_67 rfl 4 rfl ?_
              refine g_ci (pc := 68) hX (wc := [(m, .inr (3, [.ref (am 0), .ref (am 1), .ref (am 2), .ref (am 3), .ref (am 4), .ref (am 5), .ref (am 6), .ref (am 7), .int rd, .int wr, .int vi])), (am 0, .inl (K.2.1, 2, .inl po)), (am 1, .inl (K.2.1, 2, .inl ca)), (am 2, .inl (K.2.1, 2, .inl go)), (am 3, .inl (K.2.1, 8, .inl le)), (am 4, .inl (K.2.1, 160, .inl pg)), (am 5, .inl (K.2.2.1, 128, .inl mk)), (am 6, .inl (K.2.2.1, 128, .inl we)), (am 7, .inl (K.2.1, 6, .inl co))]) (wr := []) (Wd' := fun u => [(m, .inr (3, [.ref (am 0), .ref (am 1), .ref (am 2), .ref (am 3), .ref (am 4), .ref (am 5), .ref (am 6), .ref (am 7), .int rd, .int wr, .int vi])), (am 0, .inl (K.2.1, 2, .inl po)), (am 1, .inl (K.2.1, 2, .inl ca)), (am 2, .inl (K.2.1, 2, .inl go)), (am 3, .inl (K.2.1, 8, .inl le)), (am 4, .inl (K.2.1, 160, .inl pg)), (am 5, .inl (K.2.2.1, 128, .inl mk)), (am 6, .inl (K.2.2.1, 128, .inl we)), (am 7, .inl (K.2.1, 6, .inl co))]) (g_goV (pc := 68) hX (As := [.int (nI 1), .int (nI j)]) (stk := []) (wc := [(m, .inr (3, [.ref (am 0), .ref (am 1), .ref (am 2), .ref (am 3), .ref (am 4), .ref (am 5), .ref (am 6), .ref (am 7), .int rd, .int wr, .int vi])), (am 0, .inl (K.2.1, 2, .inl po)), (am 1, .inl (K.2.1, 2, .inl ca)), (am 2, .inl (K.2.1, 2, .inl go)), (am 3, .inl (K.2.1, 8, .inl le)), (am 4, .inl (K.2.1, 160, .inl pg)), (am 5, .inl (K.2.2.1, 128, .inl mk)), (am 6, .inl (K.2.2.1, 128, .inl we)), (am 7, .inl (K.2.1, 6, .inl co))]) (c_X3_isIn l K m am po ca go le pg mk we co rd wr vi (rowsF (sF U L)) hM.2.2.2.1 1 (by omega) j hj) rfl rfl rfl gX3_resident_X3_isIn nX3_isInV rfl 0 rfl ⟨(Nat.le_of_ble_eq_true rfl), (Nat.le_of_ble_eq_true rfl)⟩ [0, 1, 2, 3, 4, 5, 6, 7, 8] rfl rfl rfl (Nat.le_of_ble_eq_true rfl) dX3_resident_68 ⟨(Nat.le_of_ble_eq_true rfl), (Nat.le_of_ble_eq_true rfl)⟩) [0, 1, 2, 3, 4, 5, 6, 7, 8] [] [0, 1, 2, 3, 4, 5, 6, 7, 8] rfl rfl rfl (by decide) rfl (fun _ => rfl) (fun r u h68 => ?_)
              obtain rfl := h68
              refine g_top (y := (bI (decide (j ∈ U.2.1.2.1)))) rfl ?_
              refine g_ifB_eq (pc := 71) (tgt := 78) hX dX3_resident_71 (by decide) (fun c71 => ?_) (fun c71 => ?_)
              · refine g_iconst (pc := 78) (v := (nI 0)) hX dX3_resident_78 (by decide) ?_
                refine g_top (y := bI false) (by decide) ?_
                exact hret (v := false) (u := ()) dX3_resident_79 (by rw [show cRes (U, L, rd, wr) 0 (nI j) = false from by unfold cRes cTier; rw [if_pos rfl]; show (okPg (nI j) && sHolds U.1.1 U.2.1.1 U.2.1.2.1 U.2.1.2.2.1 (nI j).toNatClampNeg) = false; rw [okPg_nI hj, nI_clamp (by omega)]; unfold sHolds; rw [c61, if_neg c27, c71]; rfl]) rfl
              · refine g_iconst (pc := 74) (v := (nI 1)) hX dX3_resident_74 (by decide) ?_
                refine g_goto (pc := 75) (tgt := 79) hX dX3_resident_75 (by decide) ?_
                refine g_top (y := bI true) (by decide) ?_
                exact hret (v := true) (u := ()) dX3_resident_79 (by rw [show cRes (U, L, rd, wr) 0 (nI j) = true from by unfold cRes cTier; rw [if_pos rfl]; show (okPg (nI j) && sHolds U.1.1 U.2.1.1 U.2.1.2.1 U.2.1.2.2.1 (nI j).toNatClampNeg) = true; rw [okPg_nI hj, nI_clamp (by omega)]; unfold sHolds; rw [c61, if_neg c27, c71]; rfl]) rfl
        · refine g_iload_n (pc := 30) hX dX3_resident_30 rfl 0 rfl ?_
          refine g_iconst (pc := 31) (v := (nI 2)) hX dX3_resident_31 (by decide) ?_
          refine g_iaddN (pc := 32) (r := 2) hX dX3_resident_32 (by first | rfl | omega) ?_
          refine g_goto (pc := 33) (tgt := 53) hX dX3_resident_33 (by decide) ?_
          refine g_istore (pc := 53) (lv' := [(4, .int (nI 2)), (3, .int (nI 0)), (0, .ref m), (1, .int (nI 0)), (2, .int (nI j))]) hX dX3_resident_53 (by decide) rfl ?_
          refine g_aload_n (pc := 55) hX dX3_resident_55 rfl 2 rfl ?_
          refine g_iload_n (pc := 56) hX dX3_resident_56 rfl 1 rfl ?_
          refine g_iload_n (pc := 57) hX dX3_resident_57 rfl 4 rfl ?_
          refine g_ci (pc := 58) hX (wc := [(m, .inr (3, [.ref (am 0), .ref (am 1), .ref (am 2), .ref (am 3), .ref (am 4), .ref (am 5), .ref (am 6), .ref (am 7), .int rd, .int wr, .int vi])), (am 0, .inl (K.2.1, 2, .inl po)), (am 1, .inl (K.2.1, 2, .inl ca)), (am 2, .inl (K.2.1, 2, .inl go)), (am 3, .inl (K.2.1, 8, .inl le)), (am 4, .inl (K.2.1, 160, .inl pg)), (am 5, .inl (K.2.2.1, 128, .inl mk)), (am 6, .inl (K.2.2.1, 128, .inl we)), (am 7, .inl (K.2.1, 6, .inl co))]) (wr := []) (Wd' := fun u => [(m, .inr (3, [.ref (am 0), .ref (am 1), .ref (am 2), .ref (am 3), .ref (am 4), .ref (am 5), .ref (am 6), .ref (am 7), .int rd, .int wr, .int vi])), (am 0, .inl (K.2.1, 2, .inl po)), (am 1, .inl (K.2.1, 2, .inl ca)), (am 2, .inl (K.2.1, 2, .inl go)), (am 3, .inl (K.2.1, 8, .inl le)), (am 4, .inl (K.2.1, 160, .inl pg)), (am 5, .inl (K.2.2.1, 128, .inl mk)), (am 6, .inl (K.2.2.1, 128, .inl we)), (am 7, .inl (K.2.1, 6, .inl co))]) (g_goV (pc := 58) hX (As := [.int (nI 0), .int (nI j)]) (stk := []) (wc := [(m, .inr (3, [.ref (am 0), .ref (am 1), .ref (am 2), .ref (am 3), .ref (am 4), .ref (am 5), .ref (am 6), .ref (am 7), .int rd, .int wr, .int vi])), (am 0, .inl (K.2.1, 2, .inl po)), (am 1, .inl (K.2.1, 2, .inl ca)), (am 2, .inl (K.2.1, 2, .inl go)), (am 3, .inl (K.2.1, 8, .inl le)), (am 4, .inl (K.2.1, 160, .inl pg)), (am 5, .inl (K.2.2.1, 128, .inl mk)), (am 6, .inl (K.2.2.1, 128, .inl we)), (am 7, .inl (K.2.1, 6, .inl co))]) (c_X3_isIn l K m am po ca go le pg mk we co rd wr vi (rowsF (sF U L)) hM.2.2.2.1 0 (by omega) j hj) rfl rfl rfl gX3_resident_X3_isIn nX3_isInV rfl 0 rfl ⟨(Nat.le_of_ble_eq_true rfl), (Nat.le_of_ble_eq_true rfl)⟩ [0, 1, 2, 3, 4, 5, 6, 7, 8] rfl rfl rfl (Nat.le_of_ble_eq_true rfl) dX3_resident_58 ⟨(Nat.le_of_ble_eq_true rfl), (Nat.le_of_ble_eq_true rfl)⟩) [0, 1, 2, 3, 4, 5, 6, 7, 8] [] [0, 1, 2, 3, 4, 5, 6, 7, 8] rfl rfl rfl (by decide) rfl (fun _ => rfl) (fun r u h58 => ?_)
          obtain rfl := h58
          refine g_top (y := (bI (decide (j ∈ U.2.1.1)))) rfl ?_
          refine g_ifB_ne (pc := 61) (tgt := 74) hX dX3_resident_61 (by decide) (fun c61 => ?_) (fun c61 => ?_)
          · refine g_iconst (pc := 74) (v := (nI 1)) hX dX3_resident_74 (by decide) ?_
            refine g_goto (pc := 75) (tgt := 79) hX dX3_resident_75 (by decide) ?_
            refine g_top (y := bI true) (by decide) ?_
            exact hret (v := true) (u := ()) dX3_resident_79 (by rw [show cRes (U, L, rd, wr) 0 (nI j) = true from by unfold cRes cTier; rw [if_pos rfl]; show (okPg (nI j) && sHolds U.1.1 U.2.1.1 U.2.1.2.1 U.2.1.2.2.1 (nI j).toNatClampNeg) = true; rw [okPg_nI hj, nI_clamp (by omega)]; unfold sHolds; rw [c61]; rfl]) rfl
          · refine g_aload_n (pc := 64) hX dX3_resident_64 rfl 2 rfl ?_
            refine g_iload (pc := 65) hX dX3_resident_65 0 rfl ?_
            refine g_iload_n (pc := 67) hX dX3_resident_67 rfl 4 rfl ?_
            refine g_ci (pc := 68) hX (wc := [(m, .inr (3, [.ref (am 0), .ref (am 1), .ref (am 2), .ref (am 3), .ref (am 4), .ref (am 5), .ref (am 6), .ref (am 7), .int rd, .int wr, .int vi])), (am 0, .inl (K.2.1, 2, .inl po)), (am 1, .inl (K.2.1, 2, .inl ca)), (am 2, .inl (K.2.1, 2, .inl go)), (am 3, .inl (K.2.1, 8, .inl le)), (am 4, .inl (K.2.1, 160, .inl pg)), (am 5, .inl (K.2.2.1, 128, .inl mk)), (am 6, .inl (K.2.2.1, 128, .inl we)), (am 7, .inl (K.2.1, 6, .inl co))]) (wr := []) (Wd' := fun u => [(m, .inr (3, [.ref (am 0), .ref (am 1), .ref (am 2), .ref (am 3), .ref (am 4), .ref (am 5), .ref (am 6), .ref (am 7), .int rd, .int wr, .int vi])), (am 0, .inl (K.2.1, 2, .inl po)), (am 1, .inl (K.2.1, 2, .inl ca)), (am 2, .inl (K.2.1, 2, .inl go)), (am 3, .inl (K.2.1, 8, .inl le)), (am 4, .inl (K.2.1, 160, .inl pg)), (am 5, .inl (K.2.2.1, 128, .inl mk)), (am 6, .inl (K.2.2.1, 128, .inl we)), (am 7, .inl (K.2.1, 6, .inl co))]) (g_goV (pc := 68) hX (As := [.int (nI 2), .int (nI j)]) (stk := []) (wc := [(m, .inr (3, [.ref (am 0), .ref (am 1), .ref (am 2), .ref (am 3), .ref (am 4), .ref (am 5), .ref (am 6), .ref (am 7), .int rd, .int wr, .int vi])), (am 0, .inl (K.2.1, 2, .inl po)), (am 1, .inl (K.2.1, 2, .inl ca)), (am 2, .inl (K.2.1, 2, .inl go)), (am 3, .inl (K.2.1, 8, .inl le)), (am 4, .inl (K.2.1, 160, .inl pg)), (am 5, .inl (K.2.2.1, 128, .inl mk)), (am 6, .inl (K.2.2.1, 128, .inl we)), (am 7, .inl (K.2.1, 6, .inl co))]) (c_X3_isIn l K m am po ca go le pg mk we co rd wr vi (rowsF (sF U L)) hM.2.2.2.1 2 (by omega) j hj) rfl rfl rfl gX3_resident_X3_isIn nX3_isInV rfl 0 rfl ⟨(Nat.le_of_ble_eq_true rfl), (Nat.le_of_ble_eq_true rfl)⟩ [0, 1, 2, 3, 4, 5, 6, 7, 8] rfl rfl rfl (Nat.le_of_ble_eq_true rfl) dX3_resident_68 ⟨(Nat.le_of_ble_eq_true rfl), (Nat.le_of_ble_eq_true rfl)⟩) [0, 1, 2, 3, 4, 5, 6, 7, 8] [] [0, 1, 2, 3, 4, 5, 6, 7, 8] rfl rfl rfl (by decide) rfl (fun _ => rfl) (fun r u h68 => ?_)
            obtain rfl := h68
            refine g_top (y := (bI (decide (j ∈ U.2.1.2.2.1)))) rfl ?_
            refine g_ifB_eq (pc := 71) (tgt := 78) hX dX3_resident_71 (by decide) (fun c71 => ?_) (fun c71 => ?_)
            · refine g_iconst (pc := 78) (v := (nI 0)) hX dX3_resident_78 (by decide) ?_
              refine g_top (y := bI false) (by decide) ?_
              exact hret (v := false) (u := ()) dX3_resident_79 (by rw [show cRes (U, L, rd, wr) 0 (nI j) = false from by unfold cRes cTier; rw [if_pos rfl]; show (okPg (nI j) && sHolds U.1.1 U.2.1.1 U.2.1.2.1 U.2.1.2.2.1 (nI j).toNatClampNeg) = false; rw [okPg_nI hj, nI_clamp (by omega)]; unfold sHolds; rw [c61, if_pos c27, c71]; rfl]) rfl
            · refine g_iconst (pc := 74) (v := (nI 1)) hX dX3_resident_74 (by decide) ?_
              refine g_goto (pc := 75) (tgt := 79) hX dX3_resident_75 (by decide) ?_
              refine g_top (y := bI true) (by decide) ?_
              exact hret (v := true) (u := ()) dX3_resident_79 (by rw [show cRes (U, L, rd, wr) 0 (nI j) = true from by unfold cRes cTier; rw [if_pos rfl]; show (okPg (nI j) && sHolds U.1.1 U.2.1.1 U.2.1.2.1 U.2.1.2.2.1 (nI j).toNatClampNeg) = true; rw [okPg_nI hj, nI_clamp (by omega)]; unfold sHolds; rw [c61, if_pos c27, c71]; rfl]) rfl
      · refine g_iconst (pc := 14) (v := (nI 0)) hX dX3_resident_14 (by decide) ?_
        refine g_top (y := bI false) (by decide) ?_
        exact hret (v := false) (u := ()) dX3_resident_15 (by rw [show cRes (U, L, rd, wr) 0 (x) = false from by unfold cRes cTier; rw [if_pos rfl]; show (okPg x && _) = false; rw [c11]; rfl]) rfl
    · subst e1
      refine g_lv (lv' := [(0, .ref m), (1, .int (nI 1)), (2, .int x)]) rfl ?_
      refine g_iload_n (pc := 7) hX dX3_resident_7 rfl 2 rfl ?_
      refine g_ci (pc := 8) hX (wc := []) (wr := [(m, .inr (3, [.ref (am 0), .ref (am 1), .ref (am 2), .ref (am 3), .ref (am 4), .ref (am 5), .ref (am 6), .ref (am 7), .int rd, .int wr, .int vi])), (am 0, .inl (K.2.1, 2, .inl po)), (am 1, .inl (K.2.1, 2, .inl ca)), (am 2, .inl (K.2.1, 2, .inl go)), (am 3, .inl (K.2.1, 8, .inl le)), (am 4, .inl (K.2.1, 160, .inl pg)), (am 5, .inl (K.2.2.1, 128, .inl mk)), (am 6, .inl (K.2.2.1, 128, .inl we)), (am 7, .inl (K.2.1, 6, .inl co))]) (Wd' := fun u => [(m, .inr (3, [.ref (am 0), .ref (am 1), .ref (am 2), .ref (am 3), .ref (am 4), .ref (am 5), .ref (am 6), .ref (am 7), .int rd, .int wr, .int vi])), (am 0, .inl (K.2.1, 2, .inl po)), (am 1, .inl (K.2.1, 2, .inl ca)), (am 2, .inl (K.2.1, 2, .inl go)), (am 3, .inl (K.2.1, 8, .inl le)), (am 4, .inl (K.2.1, 160, .inl pg)), (am 5, .inl (K.2.2.1, 128, .inl mk)), (am 6, .inl (K.2.2.1, 128, .inl we)), (am 7, .inl (K.2.1, 6, .inl co))]) (g_goS (pc := 8) hX (As := [.int x]) (stk := []) (wc := []) (c_X3_isPage l K x) rfl rfl rfl gX3_resident_X3_isPage nX3_isPageS ⟨(Nat.le_of_ble_eq_true rfl), (Nat.le_of_ble_eq_true rfl)⟩ [] rfl rfl rfl (Nat.le_of_ble_eq_true rfl) dX3_resident_8 ⟨(Nat.le_of_ble_eq_true rfl), (Nat.le_of_ble_eq_true rfl)⟩) [] [0, 1, 2, 3, 4, 5, 6, 7, 8] [0, 1, 2, 3, 4, 5, 6, 7, 8] rfl rfl rfl (by decide) rfl (fun _ => rfl) (fun r u h8 => ?_)
      obtain rfl := h8
      refine g_ifB_ne (pc := 11) (tgt := 16) hX dX3_resident_11 (by decide) (fun c11 => ?_) (fun c11 => ?_)
      · obtain ⟨j, hj, rfl⟩ := okPg_of c11
        refine g_iconst (pc := 16) (v := (nI 4)) hX dX3_resident_16 (by decide) ?_
        refine g_iload_n (pc := 17) hX dX3_resident_17 rfl 1 rfl ?_
        refine g_imulN (pc := 18) (r := 4) hX dX3_resident_18 (by first | rfl | omega) ?_
        refine g_istore_n (pc := 19) (lv' := [(3, .int (nI 4)), (0, .ref m), (1, .int (nI 1)), (2, .int (nI j))]) hX dX3_resident_19 rfl (by decide) rfl ?_
        refine g_aload_n (pc := 20) hX dX3_resident_20 rfl 1 rfl ?_
        refine g_get (pc := 21) (C := RX3) (T := TX3) (N := 11) (ci := 3) (v := .ref (am 0)) hX inX3_resident_X3 0 rfl rfl 0 (by decide) flX3_resident_7 rfl rfl dX3_resident_21 ?_
        refine g_iload_n (pc := 24) hX dX3_resident_24 rfl 2 rfl ?_
        refine g_iald (pc := 25) (v := (nI L.1.1)) hX 1 rfl (by omega) (by omega) (hM.1 1 (by omega)) dX3_resident_25 ?_
        refine g_iconst (pc := 26) (v := (nI 2)) hX dX3_resident_26 (by decide) ?_
        refine g_icmpN_ne (pc := 27) (tgt := 36) hX (by omega) (by omega) dX3_resident_27 (by decide) (fun c27 => ?_) (fun c27 => ?_)
        · refine g_aload_n (pc := 36) hX dX3_resident_36 rfl 1 rfl ?_
          refine g_get (pc := 37) (C := RX3) (T := TX3) (N := 11) (ci := 3) (v := .ref (am 0)) hX inX3_resident_X3 0 rfl rfl 0 (by decide) flX3_resident_7 rfl rfl dX3_resident_37 ?_
          refine g_iload_n (pc := 40) hX dX3_resident_40 rfl 2 rfl ?_
          refine g_iald (pc := 41) (v := (nI L.1.1)) hX 1 rfl (by omega) (by omega) (hM.1 1 (by omega)) dX3_resident_41 ?_
          refine g_iconst (pc := 42) (v := (nI 3)) hX dX3_resident_42 (by decide) ?_
          refine g_icmpN_ne (pc := 43) (tgt := 52) hX (by omega) (by omega) dX3_resident_43 (by decide) (fun c43 => ?_) (fun c43 => ?_)
          · refine g_iload_n (pc := 52) hX dX3_resident_52 rfl 0 rfl ?_
            refine g_istore (pc := 53) (lv' := [(4, .int (nI 4)), (3, .int (nI 4)), (0, .ref m), (1, .int (nI 1)), (2, .int (nI j))]) hX dX3_resident_53 (by decide) rfl ?_
            refine g_aload_n (pc := 55) hX dX3_resident_55 rfl 2 rfl ?_
            refine g_iload_n (pc := 56) hX dX3_resident_56 rfl 1 rfl ?_
            refine g_iload_n (pc := 57) hX dX3_resident_57 rfl 4 rfl ?_
            refine g_ci (pc := 58) hX (wc := [(m, .inr (3, [.ref (am 0), .ref (am 1), .ref (am 2), .ref (am 3), .ref (am 4), .ref (am 5), .ref (am 6), .ref (am 7), .int rd, .int wr, .int vi])), (am 0, .inl (K.2.1, 2, .inl po)), (am 1, .inl (K.2.1, 2, .inl ca)), (am 2, .inl (K.2.1, 2, .inl go)), (am 3, .inl (K.2.1, 8, .inl le)), (am 4, .inl (K.2.1, 160, .inl pg)), (am 5, .inl (K.2.2.1, 128, .inl mk)), (am 6, .inl (K.2.2.1, 128, .inl we)), (am 7, .inl (K.2.1, 6, .inl co))]) (wr := []) (Wd' := fun u => [(m, .inr (3, [.ref (am 0), .ref (am 1), .ref (am 2), .ref (am 3), .ref (am 4), .ref (am 5), .ref (am 6), .ref (am 7), .int rd, .int wr, .int vi])), (am 0, .inl (K.2.1, 2, .inl po)), (am 1, .inl (K.2.1, 2, .inl ca)), (am 2, .inl (K.2.1, 2, .inl go)), (am 3, .inl (K.2.1, 8, .inl le)), (am 4, .inl (K.2.1, 160, .inl pg)), (am 5, .inl (K.2.2.1, 128, .inl mk)), (am 6, .inl (K.2.2.1, 128, .inl we)), (am 7, .inl (K.2.1, 6, .inl co))]) (g_goV (pc := 58) hX (As := [.int (nI 4), .int (nI j)]) (stk := []) (wc := [(m, .inr (3, [.ref (am 0), .ref (am 1), .ref (am 2), .ref (am 3), .ref (am 4), .ref (am 5), .ref (am 6), .ref (am 7), .int rd, .int wr, .int vi])), (am 0, .inl (K.2.1, 2, .inl po)), (am 1, .inl (K.2.1, 2, .inl ca)), (am 2, .inl (K.2.1, 2, .inl go)), (am 3, .inl (K.2.1, 8, .inl le)), (am 4, .inl (K.2.1, 160, .inl pg)), (am 5, .inl (K.2.2.1, 128, .inl mk)), (am 6, .inl (K.2.2.1, 128, .inl we)), (am 7, .inl (K.2.1, 6, .inl co))]) (c_X3_isIn l K m am po ca go le pg mk we co rd wr vi (rowsF (sF U L)) hM.2.2.2.1 4 (by omega) j hj) rfl rfl rfl gX3_resident_X3_isIn nX3_isInV rfl 0 rfl ⟨(Nat.le_of_ble_eq_true rfl), (Nat.le_of_ble_eq_true rfl)⟩ [0, 1, 2, 3, 4, 5, 6, 7, 8] rfl rfl rfl (Nat.le_of_ble_eq_true rfl) dX3_resident_58 ⟨(Nat.le_of_ble_eq_true rfl), (Nat.le_of_ble_eq_true rfl)⟩) [0, 1, 2, 3, 4, 5, 6, 7, 8] [] [0, 1, 2, 3, 4, 5, 6, 7, 8] rfl rfl rfl (by decide) rfl (fun _ => rfl) (fun r u h58 => ?_)
            obtain rfl := h58
            refine g_top (y := (bI (decide (j ∈ L.2.1.1)))) rfl ?_
            refine g_ifB_ne (pc := 61) (tgt := 74) hX dX3_resident_61 (by decide) (fun c61 => ?_) (fun c61 => ?_)
            · refine g_iconst (pc := 74) (v := (nI 1)) hX dX3_resident_74 (by decide) ?_
              refine g_goto (pc := 75) (tgt := 79) hX dX3_resident_75 (by decide) ?_
              refine g_top (y := bI true) (by decide) ?_
              exact hret (v := true) (u := ()) dX3_resident_79 (by rw [show cRes (U, L, rd, wr) 1 (nI j) = true from by unfold cRes cTier; rw [if_neg (by decide), if_pos rfl]; show (okPg (nI j) && sHolds L.1.1 L.2.1.1 L.2.1.2.1 L.2.1.2.2.1 (nI j).toNatClampNeg) = true; rw [okPg_nI hj, nI_clamp (by omega)]; unfold sHolds; rw [c61]; rfl]) rfl
            · refine g_aload_n (pc := 64) hX dX3_resident_64 rfl 2 rfl ?_
              refine g_iload (pc := 65) hX dX3_resident_65 0 rfl ?_
              refine g_iload_n (pc := 67) hX dX3_resident_67 rfl 4 rfl ?_
              refine g_ci (pc := 68) hX (wc := [(m, .inr (3, [.ref (am 0), .ref (am 1), .ref (am 2), .ref (am 3), .ref (am 4), .ref (am 5), .ref (am 6), .ref (am 7), .int rd, .int wr, .int vi])), (am 0, .inl (K.2.1, 2, .inl po)), (am 1, .inl (K.2.1, 2, .inl ca)), (am 2, .inl (K.2.1, 2, .inl go)), (am 3, .inl (K.2.1, 8, .inl le)), (am 4, .inl (K.2.1, 160, .inl pg)), (am 5, .inl (K.2.2.1, 128, .inl mk)), (am 6, .inl (K.2.2.1, 128, .inl we)), (am 7, .inl (K.2.1, 6, .inl co))]) (wr := []) (Wd' := fun u => [(m, .inr (3, [.ref (am 0), .ref (am 1), .ref (am 2), .ref (am 3), .ref (am 4), .ref (am 5), .ref (am 6), .ref (am 7), .int rd, .int wr, .int vi])), (am 0, .inl (K.2.1, 2, .inl po)), (am 1, .inl (K.2.1, 2, .inl ca)), (am 2, .inl (K.2.1, 2, .inl go)), (am 3, .inl (K.2.1, 8, .inl le)), (am 4, .inl (K.2.1, 160, .inl pg)), (am 5, .inl (K.2.2.1, 128, .inl mk)), (am 6, .inl (K.2.2.1, 128, .inl we)), (am 7, .inl (K.2.1, 6, .inl co))]) (g_goV (pc := 68) hX (As := [.int (nI 4), .int (nI j)]) (stk := []) (wc := [(m, .inr (3, [.ref (am 0), .ref (am 1), .ref (am 2), .ref (am 3), .ref (am 4), .ref (am 5), .ref (am 6), .ref (am 7), .int rd, .int wr, .int vi])), (am 0, .inl (K.2.1, 2, .inl po)), (am 1, .inl (K.2.1, 2, .inl ca)), (am 2, .inl (K.2.1, 2, .inl go)), (am 3, .inl (K.2.1, 8, .inl le)), (am 4, .inl (K.2.1, 160, .inl pg)), (am 5, .inl (K.2.2.1, 128, .inl mk)), (am 6, .inl (K.2.2.1, 128, .inl we)), (am 7, .inl (K.2.1, 6, .inl co))]) (c_X3_isIn l K m am po ca go le pg mk we co rd wr vi (rowsF (sF U L)) hM.2.2.2.1 4 (by omega) j hj) rfl rfl rfl gX3_resident_X3_isIn nX3_isInV rfl 0 rfl ⟨(Nat.le_of_ble_eq_true rfl), (Nat.le_of_ble_eq_true rfl)⟩ [0, 1, 2, 3, 4, 5, 6, 7, 8] rfl rfl rfl (Nat.le_of_ble_eq_true rfl) dX3_resident_68 ⟨(Nat.le_of_ble_eq_true rfl), (Nat.le_of_ble_eq_true rfl)⟩) [0, 1, 2, 3, 4, 5, 6, 7, 8] [] [0, 1, 2, 3, 4, 5, 6, 7, 8] rfl rfl rfl (by decide) rfl (fun _ => rfl) (fun r u h68 => ?_)
              obtain rfl := h68
              refine g_top (y := (bI (decide (j ∈ L.2.1.1)))) rfl ?_
              refine g_ifB_eq (pc := 71) (tgt := 78) hX dX3_resident_71 (by decide) (fun c71 => ?_) (fun c71 => ?_)
              · refine g_iconst (pc := 78) (v := (nI 0)) hX dX3_resident_78 (by decide) ?_
                refine g_top (y := bI false) (by decide) ?_
                exact hret (v := false) (u := ()) dX3_resident_79 (by rw [show cRes (U, L, rd, wr) 1 (nI j) = false from by unfold cRes cTier; rw [if_neg (by decide), if_pos rfl]; show (okPg (nI j) && sHolds L.1.1 L.2.1.1 L.2.1.2.1 L.2.1.2.2.1 (nI j).toNatClampNeg) = false; rw [okPg_nI hj, nI_clamp (by omega)]; unfold sHolds; rw [c61, if_neg c27, (iL.1.2.2.2.2.1 (by have := iL.1.2.2.1; omega)).2.1, mem_nil_f]; rfl]) rfl
              · refine g_iconst (pc := 74) (v := (nI 1)) hX dX3_resident_74 (by decide) ?_
                refine g_goto (pc := 75) (tgt := 79) hX dX3_resident_75 (by decide) ?_
                refine g_top (y := bI true) (by decide) ?_
                rw [c61] at c71
                cases c71
          · refine g_iload_n (pc := 46) hX dX3_resident_46 rfl 0 rfl ?_
            refine g_iconst (pc := 47) (v := (nI 1)) hX dX3_resident_47 (by decide) ?_
            refine g_iaddN (pc := 48) (r := 5) hX dX3_resident_48 (by first | rfl | omega) ?_
            refine g_goto (pc := 49) (tgt := 53) hX dX3_resident_49 (by decide) ?_
            refine g_istore (pc := 53) (lv' := [(4, .int (nI 5)), (3, .int (nI 4)), (0, .ref m), (1, .int (nI 1)), (2, .int (nI j))]) hX dX3_resident_53 (by decide) rfl ?_
            refine g_aload_n (pc := 55) hX dX3_resident_55 rfl 2 rfl ?_
            refine g_iload_n (pc := 56) hX dX3_resident_56 rfl 1 rfl ?_
            refine g_iload_n (pc := 57) hX dX3_resident_57 rfl 4 rfl ?_
            refine g_ci (pc := 58) hX (wc := [(m, .inr (3, [.ref (am 0), .ref (am 1), .ref (am 2), .ref (am 3), .ref (am 4), .ref (am 5), .ref (am 6), .ref (am 7), .int rd, .int wr, .int vi])), (am 0, .inl (K.2.1, 2, .inl po)), (am 1, .inl (K.2.1, 2, .inl ca)), (am 2, .inl (K.2.1, 2, .inl go)), (am 3, .inl (K.2.1, 8, .inl le)), (am 4, .inl (K.2.1, 160, .inl pg)), (am 5, .inl (K.2.2.1, 128, .inl mk)), (am 6, .inl (K.2.2.1, 128, .inl we)), (am 7, .inl (K.2.1, 6, .inl co))]) (wr := []) (Wd' := fun u => [(m, .inr (3, [.ref (am 0), .ref (am 1), .ref (am 2), .ref (am 3), .ref (am 4), .ref (am 5), .ref (am 6), .ref (am 7), .int rd, .int wr, .int vi])), (am 0, .inl (K.2.1, 2, .inl po)), (am 1, .inl (K.2.1, 2, .inl ca)), (am 2, .inl (K.2.1, 2, .inl go)), (am 3, .inl (K.2.1, 8, .inl le)), (am 4, .inl (K.2.1, 160, .inl pg)), (am 5, .inl (K.2.2.1, 128, .inl mk)), (am 6, .inl (K.2.2.1, 128, .inl we)), (am 7, .inl (K.2.1, 6, .inl co))]) (g_goV (pc := 58) hX (As := [.int (nI 4), .int (nI j)]) (stk := []) (wc := [(m, .inr (3, [.ref (am 0), .ref (am 1), .ref (am 2), .ref (am 3), .ref (am 4), .ref (am 5), .ref (am 6), .ref (am 7), .int rd, .int wr, .int vi])), (am 0, .inl (K.2.1, 2, .inl po)), (am 1, .inl (K.2.1, 2, .inl ca)), (am 2, .inl (K.2.1, 2, .inl go)), (am 3, .inl (K.2.1, 8, .inl le)), (am 4, .inl (K.2.1, 160, .inl pg)), (am 5, .inl (K.2.2.1, 128, .inl mk)), (am 6, .inl (K.2.2.1, 128, .inl we)), (am 7, .inl (K.2.1, 6, .inl co))]) (c_X3_isIn l K m am po ca go le pg mk we co rd wr vi (rowsF (sF U L)) hM.2.2.2.1 4 (by omega) j hj) rfl rfl rfl gX3_resident_X3_isIn nX3_isInV rfl 0 rfl ⟨(Nat.le_of_ble_eq_true rfl), (Nat.le_of_ble_eq_true rfl)⟩ [0, 1, 2, 3, 4, 5, 6, 7, 8] rfl rfl rfl (Nat.le_of_ble_eq_true rfl) dX3_resident_58 ⟨(Nat.le_of_ble_eq_true rfl), (Nat.le_of_ble_eq_true rfl)⟩) [0, 1, 2, 3, 4, 5, 6, 7, 8] [] [0, 1, 2, 3, 4, 5, 6, 7, 8] rfl rfl rfl (by decide) rfl (fun _ => rfl) (fun r u h58 => ?_)
            obtain rfl := h58
            refine g_top (y := (bI (decide (j ∈ L.2.1.1)))) rfl ?_
            refine g_ifB_ne (pc := 61) (tgt := 74) hX dX3_resident_61 (by decide) (fun c61 => ?_) (fun c61 => ?_)
            · refine g_iconst (pc := 74) (v := (nI 1)) hX dX3_resident_74 (by decide) ?_
              refine g_goto (pc := 75) (tgt := 79) hX dX3_resident_75 (by decide) ?_
              refine g_top (y := bI true) (by decide) ?_
              exact hret (v := true) (u := ()) dX3_resident_79 (by rw [show cRes (U, L, rd, wr) 1 (nI j) = true from by unfold cRes cTier; rw [if_neg (by decide), if_pos rfl]; show (okPg (nI j) && sHolds L.1.1 L.2.1.1 L.2.1.2.1 L.2.1.2.2.1 (nI j).toNatClampNeg) = true; rw [okPg_nI hj, nI_clamp (by omega)]; unfold sHolds; rw [c61]; rfl]) rfl
            · refine g_aload_n (pc := 64) hX dX3_resident_64 rfl 2 rfl ?_
              refine g_iload (pc := 65) hX dX3_resident_65 0 rfl ?_
              refine g_iload_n (pc := 67) hX dX3_resident_67 rfl 4 rfl ?_
              refine g_ci (pc := 68) hX (wc := [(m, .inr (3, [.ref (am 0), .ref (am 1), .ref (am 2), .ref (am 3), .ref (am 4), .ref (am 5), .ref (am 6), .ref (am 7), .int rd, .int wr, .int vi])), (am 0, .inl (K.2.1, 2, .inl po)), (am 1, .inl (K.2.1, 2, .inl ca)), (am 2, .inl (K.2.1, 2, .inl go)), (am 3, .inl (K.2.1, 8, .inl le)), (am 4, .inl (K.2.1, 160, .inl pg)), (am 5, .inl (K.2.2.1, 128, .inl mk)), (am 6, .inl (K.2.2.1, 128, .inl we)), (am 7, .inl (K.2.1, 6, .inl co))]) (wr := []) (Wd' := fun u => [(m, .inr (3, [.ref (am 0), .ref (am 1), .ref (am 2), .ref (am 3), .ref (am 4), .ref (am 5), .ref (am 6), .ref (am 7), .int rd, .int wr, .int vi])), (am 0, .inl (K.2.1, 2, .inl po)), (am 1, .inl (K.2.1, 2, .inl ca)), (am 2, .inl (K.2.1, 2, .inl go)), (am 3, .inl (K.2.1, 8, .inl le)), (am 4, .inl (K.2.1, 160, .inl pg)), (am 5, .inl (K.2.2.1, 128, .inl mk)), (am 6, .inl (K.2.2.1, 128, .inl we)), (am 7, .inl (K.2.1, 6, .inl co))]) (g_goV (pc := 68) hX (As := [.int (nI 5), .int (nI j)]) (stk := []) (wc := [(m, .inr (3, [.ref (am 0), .ref (am 1), .ref (am 2), .ref (am 3), .ref (am 4), .ref (am 5), .ref (am 6), .ref (am 7), .int rd, .int wr, .int vi])), (am 0, .inl (K.2.1, 2, .inl po)), (am 1, .inl (K.2.1, 2, .inl ca)), (am 2, .inl (K.2.1, 2, .inl go)), (am 3, .inl (K.2.1, 8, .inl le)), (am 4, .inl (K.2.1, 160, .inl pg)), (am 5, .inl (K.2.2.1, 128, .inl mk)), (am 6, .inl (K.2.2.1, 128, .inl we)), (am 7, .inl (K.2.1, 6, .inl co))]) (c_X3_isIn l K m am po ca go le pg mk we co rd wr vi (rowsF (sF U L)) hM.2.2.2.1 5 (by omega) j hj) rfl rfl rfl gX3_resident_X3_isIn nX3_isInV rfl 0 rfl ⟨(Nat.le_of_ble_eq_true rfl), (Nat.le_of_ble_eq_true rfl)⟩ [0, 1, 2, 3, 4, 5, 6, 7, 8] rfl rfl rfl (Nat.le_of_ble_eq_true rfl) dX3_resident_68 ⟨(Nat.le_of_ble_eq_true rfl), (Nat.le_of_ble_eq_true rfl)⟩) [0, 1, 2, 3, 4, 5, 6, 7, 8] [] [0, 1, 2, 3, 4, 5, 6, 7, 8] rfl rfl rfl (by decide) rfl (fun _ => rfl) (fun r u h68 => ?_)
              obtain rfl := h68
              refine g_top (y := (bI (decide (j ∈ L.2.1.2.1)))) rfl ?_
              refine g_ifB_eq (pc := 71) (tgt := 78) hX dX3_resident_71 (by decide) (fun c71 => ?_) (fun c71 => ?_)
              · refine g_iconst (pc := 78) (v := (nI 0)) hX dX3_resident_78 (by decide) ?_
                refine g_top (y := bI false) (by decide) ?_
                exact hret (v := false) (u := ()) dX3_resident_79 (by rw [show cRes (U, L, rd, wr) 1 (nI j) = false from by unfold cRes cTier; rw [if_neg (by decide), if_pos rfl]; show (okPg (nI j) && sHolds L.1.1 L.2.1.1 L.2.1.2.1 L.2.1.2.2.1 (nI j).toNatClampNeg) = false; rw [okPg_nI hj, nI_clamp (by omega)]; unfold sHolds; rw [c61, if_neg c27, c71]; rfl]) rfl
              · refine g_iconst (pc := 74) (v := (nI 1)) hX dX3_resident_74 (by decide) ?_
                refine g_goto (pc := 75) (tgt := 79) hX dX3_resident_75 (by decide) ?_
                refine g_top (y := bI true) (by decide) ?_
                exact hret (v := true) (u := ()) dX3_resident_79 (by rw [show cRes (U, L, rd, wr) 1 (nI j) = true from by unfold cRes cTier; rw [if_neg (by decide), if_pos rfl]; show (okPg (nI j) && sHolds L.1.1 L.2.1.1 L.2.1.2.1 L.2.1.2.2.1 (nI j).toNatClampNeg) = true; rw [okPg_nI hj, nI_clamp (by omega)]; unfold sHolds; rw [c61, if_neg c27, c71]; rfl]) rfl
        · refine g_iload_n (pc := 30) hX dX3_resident_30 rfl 0 rfl ?_
          refine g_iconst (pc := 31) (v := (nI 2)) hX dX3_resident_31 (by decide) ?_
          refine g_iaddN (pc := 32) (r := 6) hX dX3_resident_32 (by first | rfl | omega) ?_
          refine g_goto (pc := 33) (tgt := 53) hX dX3_resident_33 (by decide) ?_
          refine g_istore (pc := 53) (lv' := [(4, .int (nI 6)), (3, .int (nI 4)), (0, .ref m), (1, .int (nI 1)), (2, .int (nI j))]) hX dX3_resident_53 (by decide) rfl ?_
          refine g_aload_n (pc := 55) hX dX3_resident_55 rfl 2 rfl ?_
          refine g_iload_n (pc := 56) hX dX3_resident_56 rfl 1 rfl ?_
          refine g_iload_n (pc := 57) hX dX3_resident_57 rfl 4 rfl ?_
          refine g_ci (pc := 58) hX (wc := [(m, .inr (3, [.ref (am 0), .ref (am 1), .ref (am 2), .ref (am 3), .ref (am 4), .ref (am 5), .ref (am 6), .ref (am 7), .int rd, .int wr, .int vi])), (am 0, .inl (K.2.1, 2, .inl po)), (am 1, .inl (K.2.1, 2, .inl ca)), (am 2, .inl (K.2.1, 2, .inl go)), (am 3, .inl (K.2.1, 8, .inl le)), (am 4, .inl (K.2.1, 160, .inl pg)), (am 5, .inl (K.2.2.1, 128, .inl mk)), (am 6, .inl (K.2.2.1, 128, .inl we)), (am 7, .inl (K.2.1, 6, .inl co))]) (wr := []) (Wd' := fun u => [(m, .inr (3, [.ref (am 0), .ref (am 1), .ref (am 2), .ref (am 3), .ref (am 4), .ref (am 5), .ref (am 6), .ref (am 7), .int rd, .int wr, .int vi])), (am 0, .inl (K.2.1, 2, .inl po)), (am 1, .inl (K.2.1, 2, .inl ca)), (am 2, .inl (K.2.1, 2, .inl go)), (am 3, .inl (K.2.1, 8, .inl le)), (am 4, .inl (K.2.1, 160, .inl pg)), (am 5, .inl (K.2.2.1, 128, .inl mk)), (am 6, .inl (K.2.2.1, 128, .inl we)), (am 7, .inl (K.2.1, 6, .inl co))]) (g_goV (pc := 58) hX (As := [.int (nI 4), .int (nI j)]) (stk := []) (wc := [(m, .inr (3, [.ref (am 0), .ref (am 1), .ref (am 2), .ref (am 3), .ref (am 4), .ref (am 5), .ref (am 6), .ref (am 7), .int rd, .int wr, .int vi])), (am 0, .inl (K.2.1, 2, .inl po)), (am 1, .inl (K.2.1, 2, .inl ca)), (am 2, .inl (K.2.1, 2, .inl go)), (am 3, .inl (K.2.1, 8, .inl le)), (am 4, .inl (K.2.1, 160, .inl pg)), (am 5, .inl (K.2.2.1, 128, .inl mk)), (am 6, .inl (K.2.2.1, 128, .inl we)), (am 7, .inl (K.2.1, 6, .inl co))]) (c_X3_isIn l K m am po ca go le pg mk we co rd wr vi (rowsF (sF U L)) hM.2.2.2.1 4 (by omega) j hj) rfl rfl rfl gX3_resident_X3_isIn nX3_isInV rfl 0 rfl ⟨(Nat.le_of_ble_eq_true rfl), (Nat.le_of_ble_eq_true rfl)⟩ [0, 1, 2, 3, 4, 5, 6, 7, 8] rfl rfl rfl (Nat.le_of_ble_eq_true rfl) dX3_resident_58 ⟨(Nat.le_of_ble_eq_true rfl), (Nat.le_of_ble_eq_true rfl)⟩) [0, 1, 2, 3, 4, 5, 6, 7, 8] [] [0, 1, 2, 3, 4, 5, 6, 7, 8] rfl rfl rfl (by decide) rfl (fun _ => rfl) (fun r u h58 => ?_)
          obtain rfl := h58
          refine g_top (y := (bI (decide (j ∈ L.2.1.1)))) rfl ?_
          refine g_ifB_ne (pc := 61) (tgt := 74) hX dX3_resident_61 (by decide) (fun c61 => ?_) (fun c61 => ?_)
          · refine g_iconst (pc := 74) (v := (nI 1)) hX dX3_resident_74 (by decide) ?_
            refine g_goto (pc := 75) (tgt := 79) hX dX3_resident_75 (by decide) ?_
            refine g_top (y := bI true) (by decide) ?_
            exact hret (v := true) (u := ()) dX3_resident_79 (by rw [show cRes (U, L, rd, wr) 1 (nI j) = true from by unfold cRes cTier; rw [if_neg (by decide), if_pos rfl]; show (okPg (nI j) && sHolds L.1.1 L.2.1.1 L.2.1.2.1 L.2.1.2.2.1 (nI j).toNatClampNeg) = true; rw [okPg_nI hj, nI_clamp (by omega)]; unfold sHolds; rw [c61]; rfl]) rfl
          · refine g_aload_n (pc := 64) hX dX3_resident_64 rfl 2 rfl ?_
            refine g_iload (pc := 65) hX dX3_resident_65 0 rfl ?_
            refine g_iload_n (pc := 67) hX dX3_resident_67 rfl 4 rfl ?_
            refine g_ci (pc := 68) hX (wc := [(m, .inr (3, [.ref (am 0), .ref (am 1), .ref (am 2), .ref (am 3), .ref (am 4), .ref (am 5), .ref (am 6), .ref (am 7), .int rd, .int wr, .int vi])), (am 0, .inl (K.2.1, 2, .inl po)), (am 1, .inl (K.2.1, 2, .inl ca)), (am 2, .inl (K.2.1, 2, .inl go)), (am 3, .inl (K.2.1, 8, .inl le)), (am 4, .inl (K.2.1, 160, .inl pg)), (am 5, .inl (K.2.2.1, 128, .inl mk)), (am 6, .inl (K.2.2.1, 128, .inl we)), (am 7, .inl (K.2.1, 6, .inl co))]) (wr := []) (Wd' := fun u => [(m, .inr (3, [.ref (am 0), .ref (am 1), .ref (am 2), .ref (am 3), .ref (am 4), .ref (am 5), .ref (am 6), .ref (am 7), .int rd, .int wr, .int vi])), (am 0, .inl (K.2.1, 2, .inl po)), (am 1, .inl (K.2.1, 2, .inl ca)), (am 2, .inl (K.2.1, 2, .inl go)), (am 3, .inl (K.2.1, 8, .inl le)), (am 4, .inl (K.2.1, 160, .inl pg)), (am 5, .inl (K.2.2.1, 128, .inl mk)), (am 6, .inl (K.2.2.1, 128, .inl we)), (am 7, .inl (K.2.1, 6, .inl co))]) (g_goV (pc := 68) hX (As := [.int (nI 6), .int (nI j)]) (stk := []) (wc := [(m, .inr (3, [.ref (am 0), .ref (am 1), .ref (am 2), .ref (am 3), .ref (am 4), .ref (am 5), .ref (am 6), .ref (am 7), .int rd, .int wr, .int vi])), (am 0, .inl (K.2.1, 2, .inl po)), (am 1, .inl (K.2.1, 2, .inl ca)), (am 2, .inl (K.2.1, 2, .inl go)), (am 3, .inl (K.2.1, 8, .inl le)), (am 4, .inl (K.2.1, 160, .inl pg)), (am 5, .inl (K.2.2.1, 128, .inl mk)), (am 6, .inl (K.2.2.1, 128, .inl we)), (am 7, .inl (K.2.1, 6, .inl co))]) (c_X3_isIn l K m am po ca go le pg mk we co rd wr vi (rowsF (sF U L)) hM.2.2.2.1 6 (by omega) j hj) rfl rfl rfl gX3_resident_X3_isIn nX3_isInV rfl 0 rfl ⟨(Nat.le_of_ble_eq_true rfl), (Nat.le_of_ble_eq_true rfl)⟩ [0, 1, 2, 3, 4, 5, 6, 7, 8] rfl rfl rfl (Nat.le_of_ble_eq_true rfl) dX3_resident_68 ⟨(Nat.le_of_ble_eq_true rfl), (Nat.le_of_ble_eq_true rfl)⟩) [0, 1, 2, 3, 4, 5, 6, 7, 8] [] [0, 1, 2, 3, 4, 5, 6, 7, 8] rfl rfl rfl (by decide) rfl (fun _ => rfl) (fun r u h68 => ?_)
            obtain rfl := h68
            refine g_top (y := (bI (decide (j ∈ L.2.1.2.2.1)))) rfl ?_
            refine g_ifB_eq (pc := 71) (tgt := 78) hX dX3_resident_71 (by decide) (fun c71 => ?_) (fun c71 => ?_)
            · refine g_iconst (pc := 78) (v := (nI 0)) hX dX3_resident_78 (by decide) ?_
              refine g_top (y := bI false) (by decide) ?_
              exact hret (v := false) (u := ()) dX3_resident_79 (by rw [show cRes (U, L, rd, wr) 1 (nI j) = false from by unfold cRes cTier; rw [if_neg (by decide), if_pos rfl]; show (okPg (nI j) && sHolds L.1.1 L.2.1.1 L.2.1.2.1 L.2.1.2.2.1 (nI j).toNatClampNeg) = false; rw [okPg_nI hj, nI_clamp (by omega)]; unfold sHolds; rw [c61, if_pos c27, c71]; rfl]) rfl
            · refine g_iconst (pc := 74) (v := (nI 1)) hX dX3_resident_74 (by decide) ?_
              refine g_goto (pc := 75) (tgt := 79) hX dX3_resident_75 (by decide) ?_
              refine g_top (y := bI true) (by decide) ?_
              exact hret (v := true) (u := ()) dX3_resident_79 (by rw [show cRes (U, L, rd, wr) 1 (nI j) = true from by unfold cRes cTier; rw [if_neg (by decide), if_pos rfl]; show (okPg (nI j) && sHolds L.1.1 L.2.1.1 L.2.1.2.1 L.2.1.2.2.1 (nI j).toNatClampNeg) = true; rw [okPg_nI hj, nI_clamp (by omega)]; unfold sHolds; rw [c61, if_pos c27, c71]; rfl]) rfl
      · refine g_iconst (pc := 14) (v := (nI 0)) hX dX3_resident_14 (by decide) ?_
        refine g_top (y := bI false) (by decide) ?_
        exact hret (v := false) (u := ()) dX3_resident_15 (by rw [show cRes (U, L, rd, wr) 1 (x) = false from by unfold cRes cTier; rw [if_neg (by decide), if_pos rfl]; show (okPg x && _) = false; rw [c11]; rfl]) rfl
abbrev rmX3_dirty : Room := { frames := 1, cells := 0, slots := 0, locals := 20 }
theorem flX3_dirty_29 : Cond.fieldLink RX3 29 "TwoTierCacheModel" "wet" "[Z" ∈ wsX3_dirty := by decide +kernel
theorem inX3_dirty_X3 : ∀ w ∈ u_ws RX3 TX3 11, w ∈ wsX3_dirty := by decide +kernel
set_option maxHeartbeats 4000000 in
set_option maxRecDepth 100000 in
/-- dirty -/
theorem c_X3_dirty (l : Launch) (K : gT) (m : Nat) (am : Nat → Nat) (po ca go le pg mk we co : Nat → Int32) (rd wr vi : Int32) (U L : TS) (hM : mR (sF U L) po ca go le pg mk we co) (iU : tInv U) (iL : tInv L) (t x : Int32) : Ci l yX3_dirty wsX3_dirty rmX3_dirty K [.ref m, .int t, .int x] (mW K m am po ca go le pg mk we co rd wr vi) (fun (r : Int32) (u : Unit) => r = bI (cDirt (U, L, rd, wr) t x)) (fun u => mW K m am po ca go le pg mk we co rd wr vi) 0 0 := by
  refine m_z (cc := cX3_dirty) (own := RX3) (maxL := 3) (lv0 := [(0, .ref m), (1, .int t), (2, .int x)]) (by decide) rfl rfl (Nat.le_of_ble_eq_true rfl) rfl ?_
  intro X hX hin hret
  refine g_ws (ws' := [(m, .inr (3, [.ref (am 0), .ref (am 1), .ref (am 2), .ref (am 3), .ref (am 4), .ref (am 5), .ref (am 6), .ref (am 7), .int rd, .int wr, .int vi])), (am 0, .inl (K.2.1, 2, .inl po)), (am 1, .inl (K.2.1, 2, .inl ca)), (am 2, .inl (K.2.1, 2, .inl go)), (am 3, .inl (K.2.1, 8, .inl le)), (am 4, .inl (K.2.1, 160, .inl pg)), (am 5, .inl (K.2.2.1, 128, .inl mk)), (am 6, .inl (K.2.2.1, 128, .inl we)), (am 7, .inl (K.2.1, 6, .inl co))]) rfl ?_
  refine g_iload_n (pc := 0) hX dX3_dirty_0 rfl 1 rfl ?_
  refine g_ci (pc := 1) hX (wc := []) (wr := [(m, .inr (3, [.ref (am 0), .ref (am 1), .ref (am 2), .ref (am 3), .ref (am 4), .ref (am 5), .ref (am 6), .ref (am 7), .int rd, .int wr, .int vi])), (am 0, .inl (K.2.1, 2, .inl po)), (am 1, .inl (K.2.1, 2, .inl ca)), (am 2, .inl (K.2.1, 2, .inl go)), (am 3, .inl (K.2.1, 8, .inl le)), (am 4, .inl (K.2.1, 160, .inl pg)), (am 5, .inl (K.2.2.1, 128, .inl mk)), (am 6, .inl (K.2.2.1, 128, .inl we)), (am 7, .inl (K.2.1, 6, .inl co))]) (Wd' := fun u => [(m, .inr (3, [.ref (am 0), .ref (am 1), .ref (am 2), .ref (am 3), .ref (am 4), .ref (am 5), .ref (am 6), .ref (am 7), .int rd, .int wr, .int vi])), (am 0, .inl (K.2.1, 2, .inl po)), (am 1, .inl (K.2.1, 2, .inl ca)), (am 2, .inl (K.2.1, 2, .inl go)), (am 3, .inl (K.2.1, 8, .inl le)), (am 4, .inl (K.2.1, 160, .inl pg)), (am 5, .inl (K.2.2.1, 128, .inl mk)), (am 6, .inl (K.2.2.1, 128, .inl we)), (am 7, .inl (K.2.1, 6, .inl co))]) (g_goS (pc := 1) hX (As := [.int t]) (stk := []) (wc := []) (c_X3_isTier l K t) rfl rfl rfl gX3_dirty_X3_isTier nX3_isTierS ⟨(Nat.le_of_ble_eq_true rfl), (Nat.le_of_ble_eq_true rfl)⟩ [] rfl rfl rfl (Nat.le_of_ble_eq_true rfl) dX3_dirty_1 ⟨(Nat.le_of_ble_eq_true rfl), (Nat.le_of_ble_eq_true rfl)⟩) [] [0, 1, 2, 3, 4, 5, 6, 7, 8] [0, 1, 2, 3, 4, 5, 6, 7, 8] rfl rfl rfl (by decide) rfl (fun _ => rfl) (fun r u h1 => ?_)
  obtain rfl := h1
  refine g_ifB_eq (pc := 4) (tgt := 32) hX dX3_dirty_4 (by decide) (fun c4 => ?_) (fun c4 => ?_)
  · obtain ⟨n0, n1⟩ := okT_no c4
    refine g_iconst (pc := 32) (v := (nI 0)) hX dX3_dirty_32 (by decide) ?_
    refine g_top (y := bI false) (by decide) ?_
    exact hret (v := false) (u := ()) dX3_dirty_33 (by rw [show cDirt (U, L, rd, wr) t (x) = false from by unfold cDirt cTier; rw [if_neg n0, if_neg n1]]) rfl
  · rcases okT_of c4 with e0 | e1
    · subst e0
      refine g_lv (lv' := [(0, .ref m), (1, .int (nI 0)), (2, .int x)]) rfl ?_
      refine g_iload_n (pc := 7) hX dX3_dirty_7 rfl 2 rfl ?_
      refine g_ci (pc := 8) hX (wc := []) (wr := [(m, .inr (3, [.ref (am 0), .ref (am 1), .ref (am 2), .ref (am 3), .ref (am 4), .ref (am 5), .ref (am 6), .ref (am 7), .int rd, .int wr, .int vi])), (am 0, .inl (K.2.1, 2, .inl po)), (am 1, .inl (K.2.1, 2, .inl ca)), (am 2, .inl (K.2.1, 2, .inl go)), (am 3, .inl (K.2.1, 8, .inl le)), (am 4, .inl (K.2.1, 160, .inl pg)), (am 5, .inl (K.2.2.1, 128, .inl mk)), (am 6, .inl (K.2.2.1, 128, .inl we)), (am 7, .inl (K.2.1, 6, .inl co))]) (Wd' := fun u => [(m, .inr (3, [.ref (am 0), .ref (am 1), .ref (am 2), .ref (am 3), .ref (am 4), .ref (am 5), .ref (am 6), .ref (am 7), .int rd, .int wr, .int vi])), (am 0, .inl (K.2.1, 2, .inl po)), (am 1, .inl (K.2.1, 2, .inl ca)), (am 2, .inl (K.2.1, 2, .inl go)), (am 3, .inl (K.2.1, 8, .inl le)), (am 4, .inl (K.2.1, 160, .inl pg)), (am 5, .inl (K.2.2.1, 128, .inl mk)), (am 6, .inl (K.2.2.1, 128, .inl we)), (am 7, .inl (K.2.1, 6, .inl co))]) (g_goS (pc := 8) hX (As := [.int x]) (stk := []) (wc := []) (c_X3_isPage l K x) rfl rfl rfl gX3_dirty_X3_isPage nX3_isPageS ⟨(Nat.le_of_ble_eq_true rfl), (Nat.le_of_ble_eq_true rfl)⟩ [] rfl rfl rfl (Nat.le_of_ble_eq_true rfl) dX3_dirty_8 ⟨(Nat.le_of_ble_eq_true rfl), (Nat.le_of_ble_eq_true rfl)⟩) [] [0, 1, 2, 3, 4, 5, 6, 7, 8] [0, 1, 2, 3, 4, 5, 6, 7, 8] rfl rfl rfl (by decide) rfl (fun _ => rfl) (fun r u h8 => ?_)
      obtain rfl := h8
      refine g_ifB_eq (pc := 11) (tgt := 32) hX dX3_dirty_11 (by decide) (fun c11 => ?_) (fun c11 => ?_)
      · refine g_iconst (pc := 32) (v := (nI 0)) hX dX3_dirty_32 (by decide) ?_
        refine g_top (y := bI false) (by decide) ?_
        exact hret (v := false) (u := ()) dX3_dirty_33 (by rw [show cDirt (U, L, rd, wr) 0 (x) = false from by unfold cDirt cTier; rw [if_pos rfl]; show (okPg x && _) = false; rw [c11]; rfl]) rfl
      · obtain ⟨j, hj, rfl⟩ := okPg_of c11
        refine g_aload_n (pc := 14) hX dX3_dirty_14 rfl 0 rfl ?_
        refine g_get (pc := 15) (C := RX3) (T := TX3) (N := 11) (ci := 3) (v := .ref (am 6)) hX inX3_dirty_X3 0 rfl rfl 6 (by decide) flX3_dirty_29 rfl rfl dX3_dirty_15 ?_
        refine g_bipush (pc := 18) (v := (nI 64)) hX dX3_dirty_18 (by decide) ?_
        refine g_iload_n (pc := 20) hX dX3_dirty_20 rfl 1 rfl ?_
        refine g_imulN (pc := 21) (r := 0) hX dX3_dirty_21 (by first | rfl | omega) ?_
        refine g_iload_n (pc := 22) hX dX3_dirty_22 rfl 2 rfl ?_
        refine g_iaddN (pc := 23) (r := 0 + j) hX dX3_dirty_23 (by first | rfl | omega) ?_
        refine g_zald (pc := 24) (v := (bI (U.2.2.1.2 j))) hX 7 rfl (by omega) (by omega) (hM.2.2.2.2.2.1 0 (by omega) j hj) dX3_dirty_24 ?_
        refine g_ifB_eq (pc := 25) (tgt := 32) hX dX3_dirty_25 (by decide) (fun c25 => ?_) (fun c25 => ?_)
        · refine g_iconst (pc := 32) (v := (nI 0)) hX dX3_dirty_32 (by decide) ?_
          refine g_top (y := bI false) (by decide) ?_
          exact hret (v := false) (u := ()) dX3_dirty_33 (by rw [show cDirt (U, L, rd, wr) 0 (nI j) = false from by unfold cDirt cTier; rw [if_pos rfl]; show (okPg (nI j) && U.2.2.1.2 (nI j).toNatClampNeg) = false; rw [okPg_nI hj, nI_clamp (by omega)]; rw [c25]; rfl]) rfl
        · refine g_iconst (pc := 28) (v := (nI 1)) hX dX3_dirty_28 (by decide) ?_
          refine g_goto (pc := 29) (tgt := 33) hX dX3_dirty_29 (by decide) ?_
          refine g_top (y := bI true) (by decide) ?_
          exact hret (v := true) (u := ()) dX3_dirty_33 (by rw [show cDirt (U, L, rd, wr) 0 (nI j) = true from by unfold cDirt cTier; rw [if_pos rfl]; show (okPg (nI j) && U.2.2.1.2 (nI j).toNatClampNeg) = true; rw [okPg_nI hj, nI_clamp (by omega)]; rw [c25]; rfl]) rfl
    · subst e1
      refine g_lv (lv' := [(0, .ref m), (1, .int (nI 1)), (2, .int x)]) rfl ?_
      refine g_iload_n (pc := 7) hX dX3_dirty_7 rfl 2 rfl ?_
      refine g_ci (pc := 8) hX (wc := []) (wr := [(m, .inr (3, [.ref (am 0), .ref (am 1), .ref (am 2), .ref (am 3), .ref (am 4), .ref (am 5), .ref (am 6), .ref (am 7), .int rd, .int wr, .int vi])), (am 0, .inl (K.2.1, 2, .inl po)), (am 1, .inl (K.2.1, 2, .inl ca)), (am 2, .inl (K.2.1, 2, .inl go)), (am 3, .inl (K.2.1, 8, .inl le)), (am 4, .inl (K.2.1, 160, .inl pg)), (am 5, .inl (K.2.2.1, 128, .inl mk)), (am 6, .inl (K.2.2.1, 128, .inl we)), (am 7, .inl (K.2.1, 6, .inl co))]) (Wd' := fun u => [(m, .inr (3, [.ref (am 0), .ref (am 1), .ref (am 2), .ref (am 3), .ref (am 4), .ref (am 5), .ref (am 6), .ref (am 7), .int rd, .int wr, .int vi])), (am 0, .inl (K.2.1, 2, .inl po)), (am 1, .inl (K.2.1, 2, .inl ca)), (am 2, .inl (K.2.1, 2, .inl go)), (am 3, .inl (K.2.1, 8, .inl le)), (am 4, .inl (K.2.1, 160, .inl pg)), (am 5, .inl (K.2.2.1, 128, .inl mk)), (am 6, .inl (K.2.2.1, 128, .inl we)), (am 7, .inl (K.2.1, 6, .inl co))]) (g_goS (pc := 8) hX (As := [.int x]) (stk := []) (wc := []) (c_X3_isPage l K x) rfl rfl rfl gX3_dirty_X3_isPage nX3_isPageS ⟨(Nat.le_of_ble_eq_true rfl), (Nat.le_of_ble_eq_true rfl)⟩ [] rfl rfl rfl (Nat.le_of_ble_eq_true rfl) dX3_dirty_8 ⟨(Nat.le_of_ble_eq_true rfl), (Nat.le_of_ble_eq_true rfl)⟩) [] [0, 1, 2, 3, 4, 5, 6, 7, 8] [0, 1, 2, 3, 4, 5, 6, 7, 8] rfl rfl rfl (by decide) rfl (fun _ => rfl) (fun r u h8 => ?_)
      obtain rfl := h8
      refine g_ifB_eq (pc := 11) (tgt := 32) hX dX3_dirty_11 (by decide) (fun c11 => ?_) (fun c11 => ?_)
      · refine g_iconst (pc := 32) (v := (nI 0)) hX dX3_dirty_32 (by decide) ?_
        refine g_top (y := bI false) (by decide) ?_
        exact hret (v := false) (u := ()) dX3_dirty_33 (by rw [show cDirt (U, L, rd, wr) 1 (x) = false from by unfold cDirt cTier; rw [if_neg (by decide), if_pos rfl]; show (okPg x && _) = false; rw [c11]; rfl]) rfl
      · obtain ⟨j, hj, rfl⟩ := okPg_of c11
        refine g_aload_n (pc := 14) hX dX3_dirty_14 rfl 0 rfl ?_
        refine g_get (pc := 15) (C := RX3) (T := TX3) (N := 11) (ci := 3) (v := .ref (am 6)) hX inX3_dirty_X3 0 rfl rfl 6 (by decide) flX3_dirty_29 rfl rfl dX3_dirty_15 ?_
        refine g_bipush (pc := 18) (v := (nI 64)) hX dX3_dirty_18 (by decide) ?_
        refine g_iload_n (pc := 20) hX dX3_dirty_20 rfl 1 rfl ?_
        refine g_imulN (pc := 21) (r := 64) hX dX3_dirty_21 (by first | rfl | omega) ?_
        refine g_iload_n (pc := 22) hX dX3_dirty_22 rfl 2 rfl ?_
        refine g_iaddN (pc := 23) (r := 64 + j) hX dX3_dirty_23 (by first | rfl | omega) ?_
        refine g_zald (pc := 24) (v := (bI (L.2.2.1.2 j))) hX 7 rfl (by omega) (by omega) (hM.2.2.2.2.2.1 1 (by omega) j hj) dX3_dirty_24 ?_
        refine g_ifB_eq (pc := 25) (tgt := 32) hX dX3_dirty_25 (by decide) (fun c25 => ?_) (fun c25 => ?_)
        · refine g_iconst (pc := 32) (v := (nI 0)) hX dX3_dirty_32 (by decide) ?_
          refine g_top (y := bI false) (by decide) ?_
          exact hret (v := false) (u := ()) dX3_dirty_33 (by rw [show cDirt (U, L, rd, wr) 1 (nI j) = false from by unfold cDirt cTier; rw [if_neg (by decide), if_pos rfl]; show (okPg (nI j) && L.2.2.1.2 (nI j).toNatClampNeg) = false; rw [okPg_nI hj, nI_clamp (by omega)]; rw [c25]; rfl]) rfl
        · refine g_iconst (pc := 28) (v := (nI 1)) hX dX3_dirty_28 (by decide) ?_
          refine g_goto (pc := 29) (tgt := 33) hX dX3_dirty_29 (by decide) ?_
          refine g_top (y := bI true) (by decide) ?_
          exact hret (v := true) (u := ()) dX3_dirty_33 (by rw [show cDirt (U, L, rd, wr) 1 (nI j) = true from by unfold cDirt cTier; rw [if_neg (by decide), if_pos rfl]; show (okPg (nI j) && L.2.2.1.2 (nI j).toNatClampNeg) = true; rw [okPg_nI hj, nI_clamp (by omega)]; rw [c25]; rfl]) rfl
abbrev rmX3_marked : Room := { frames := 1, cells := 0, slots := 0, locals := 20 }
theorem flX3_marked_7 : Cond.fieldLink RX3 7 "TwoTierCacheModel" "policies" "[I" ∈ wsX3_marked := by decide +kernel
theorem inX3_marked_X3 : ∀ w ∈ u_ws RX3 TX3 11, w ∈ wsX3_marked := by decide +kernel
theorem flX3_marked_25 : Cond.fieldLink RX3 25 "TwoTierCacheModel" "marks" "[Z" ∈ wsX3_marked := by decide +kernel
set_option maxHeartbeats 4000000 in
set_option maxRecDepth 100000 in
/-- marked -/
theorem c_X3_marked (l : Launch) (K : gT) (m : Nat) (am : Nat → Nat) (po ca go le pg mk we co : Nat → Int32) (rd wr vi : Int32) (U L : TS) (hM : mR (sF U L) po ca go le pg mk we co) (iU : tInv U) (iL : tInv L) (t x : Int32) : Ci l yX3_marked wsX3_marked rmX3_marked K [.ref m, .int t, .int x] (mW K m am po ca go le pg mk we co rd wr vi) (fun (r : Int32) (u : Unit) => r = bI (cMark (U, L, rd, wr) t x)) (fun u => mW K m am po ca go le pg mk we co rd wr vi) 0 0 := by
  refine m_z (cc := cX3_marked) (own := RX3) (maxL := 3) (lv0 := [(0, .ref m), (1, .int t), (2, .int x)]) (by decide) rfl rfl (Nat.le_of_ble_eq_true rfl) rfl ?_
  intro X hX hin hret
  refine g_ws (ws' := [(m, .inr (3, [.ref (am 0), .ref (am 1), .ref (am 2), .ref (am 3), .ref (am 4), .ref (am 5), .ref (am 6), .ref (am 7), .int rd, .int wr, .int vi])), (am 0, .inl (K.2.1, 2, .inl po)), (am 1, .inl (K.2.1, 2, .inl ca)), (am 2, .inl (K.2.1, 2, .inl go)), (am 3, .inl (K.2.1, 8, .inl le)), (am 4, .inl (K.2.1, 160, .inl pg)), (am 5, .inl (K.2.2.1, 128, .inl mk)), (am 6, .inl (K.2.2.1, 128, .inl we)), (am 7, .inl (K.2.1, 6, .inl co))]) rfl ?_
  have hpU := iU.1.2.2.1
  have hpL := iL.1.2.2.1
  refine g_iload_n (pc := 0) hX dX3_marked_0 rfl 1 rfl ?_
  refine g_ci (pc := 1) hX (wc := []) (wr := [(m, .inr (3, [.ref (am 0), .ref (am 1), .ref (am 2), .ref (am 3), .ref (am 4), .ref (am 5), .ref (am 6), .ref (am 7), .int rd, .int wr, .int vi])), (am 0, .inl (K.2.1, 2, .inl po)), (am 1, .inl (K.2.1, 2, .inl ca)), (am 2, .inl (K.2.1, 2, .inl go)), (am 3, .inl (K.2.1, 8, .inl le)), (am 4, .inl (K.2.1, 160, .inl pg)), (am 5, .inl (K.2.2.1, 128, .inl mk)), (am 6, .inl (K.2.2.1, 128, .inl we)), (am 7, .inl (K.2.1, 6, .inl co))]) (Wd' := fun u => [(m, .inr (3, [.ref (am 0), .ref (am 1), .ref (am 2), .ref (am 3), .ref (am 4), .ref (am 5), .ref (am 6), .ref (am 7), .int rd, .int wr, .int vi])), (am 0, .inl (K.2.1, 2, .inl po)), (am 1, .inl (K.2.1, 2, .inl ca)), (am 2, .inl (K.2.1, 2, .inl go)), (am 3, .inl (K.2.1, 8, .inl le)), (am 4, .inl (K.2.1, 160, .inl pg)), (am 5, .inl (K.2.2.1, 128, .inl mk)), (am 6, .inl (K.2.2.1, 128, .inl we)), (am 7, .inl (K.2.1, 6, .inl co))]) (g_goS (pc := 1) hX (As := [.int t]) (stk := []) (wc := []) (c_X3_isTier l K t) rfl rfl rfl gX3_marked_X3_isTier nX3_isTierS ⟨(Nat.le_of_ble_eq_true rfl), (Nat.le_of_ble_eq_true rfl)⟩ [] rfl rfl rfl (Nat.le_of_ble_eq_true rfl) dX3_marked_1 ⟨(Nat.le_of_ble_eq_true rfl), (Nat.le_of_ble_eq_true rfl)⟩) [] [0, 1, 2, 3, 4, 5, 6, 7, 8] [0, 1, 2, 3, 4, 5, 6, 7, 8] rfl rfl rfl (by decide) rfl (fun _ => rfl) (fun r u h1 => ?_)
  obtain rfl := h1
  refine g_ifB_eq (pc := 4) (tgt := 42) hX dX3_marked_4 (by decide) (fun c4 => ?_) (fun c4 => ?_)
  · obtain ⟨n0, n1⟩ := okT_no c4
    refine g_iconst (pc := 42) (v := (nI 0)) hX dX3_marked_42 (by decide) ?_
    refine g_top (y := bI false) (by decide) ?_
    exact hret (v := false) (u := ()) dX3_marked_43 (by rw [show cMark (U, L, rd, wr) t (x) = false from by unfold cMark cTier; rw [if_neg n0, if_neg n1]]) rfl
  · rcases okT_of c4 with e0 | e1
    · subst e0
      refine g_lv (lv' := [(0, .ref m), (1, .int (nI 0)), (2, .int x)]) rfl ?_
      refine g_iload_n (pc := 7) hX dX3_marked_7 rfl 2 rfl ?_
      refine g_ci (pc := 8) hX (wc := []) (wr := [(m, .inr (3, [.ref (am 0), .ref (am 1), .ref (am 2), .ref (am 3), .ref (am 4), .ref (am 5), .ref (am 6), .ref (am 7), .int rd, .int wr, .int vi])), (am 0, .inl (K.2.1, 2, .inl po)), (am 1, .inl (K.2.1, 2, .inl ca)), (am 2, .inl (K.2.1, 2, .inl go)), (am 3, .inl (K.2.1, 8, .inl le)), (am 4, .inl (K.2.1, 160, .inl pg)), (am 5, .inl (K.2.2.1, 128, .inl mk)), (am 6, .inl (K.2.2.1, 128, .inl we)), (am 7, .inl (K.2.1, 6, .inl co))]) (Wd' := fun u => [(m, .inr (3, [.ref (am 0), .ref (am 1), .ref (am 2), .ref (am 3), .ref (am 4), .ref (am 5), .ref (am 6), .ref (am 7), .int rd, .int wr, .int vi])), (am 0, .inl (K.2.1, 2, .inl po)), (am 1, .inl (K.2.1, 2, .inl ca)), (am 2, .inl (K.2.1, 2, .inl go)), (am 3, .inl (K.2.1, 8, .inl le)), (am 4, .inl (K.2.1, 160, .inl pg)), (am 5, .inl (K.2.2.1, 128, .inl mk)), (am 6, .inl (K.2.2.1, 128, .inl we)), (am 7, .inl (K.2.1, 6, .inl co))]) (g_goS (pc := 8) hX (As := [.int x]) (stk := []) (wc := []) (c_X3_isPage l K x) rfl rfl rfl gX3_marked_X3_isPage nX3_isPageS ⟨(Nat.le_of_ble_eq_true rfl), (Nat.le_of_ble_eq_true rfl)⟩ [] rfl rfl rfl (Nat.le_of_ble_eq_true rfl) dX3_marked_8 ⟨(Nat.le_of_ble_eq_true rfl), (Nat.le_of_ble_eq_true rfl)⟩) [] [0, 1, 2, 3, 4, 5, 6, 7, 8] [0, 1, 2, 3, 4, 5, 6, 7, 8] rfl rfl rfl (by decide) rfl (fun _ => rfl) (fun r u h8 => ?_)
      obtain rfl := h8
      refine g_ifB_eq (pc := 11) (tgt := 42) hX dX3_marked_11 (by decide) (fun c11 => ?_) (fun c11 => ?_)
      · refine g_iconst (pc := 42) (v := (nI 0)) hX dX3_marked_42 (by decide) ?_
        refine g_top (y := bI false) (by decide) ?_
        exact hret (v := false) (u := ()) dX3_marked_43 (by rw [show cMark (U, L, rd, wr) 0 (x) = false from by unfold cMark cTier; rw [if_pos rfl]; show (okPg x && _) = false; rw [c11]; rfl]) rfl
      · obtain ⟨j, hj, rfl⟩ := okPg_of c11
        refine g_aload_n (pc := 14) hX dX3_marked_14 rfl 0 rfl ?_
        refine g_get (pc := 15) (C := RX3) (T := TX3) (N := 11) (ci := 3) (v := .ref (am 0)) hX inX3_marked_X3 0 rfl rfl 0 (by decide) flX3_marked_7 rfl rfl dX3_marked_15 ?_
        refine g_iload_n (pc := 18) hX dX3_marked_18 rfl 1 rfl ?_
        refine g_iald (pc := 19) (v := (nI U.1.1)) hX 1 rfl (by omega) (by omega) (hM.1 0 (by omega)) dX3_marked_19 ?_
        refine g_iconst (pc := 20) (v := (nI 1)) hX dX3_marked_20 (by decide) ?_
        refine g_icmpN_ne (pc := 21) (tgt := 42) hX (by omega) (by omega) dX3_marked_21 (by decide) (fun c21 => ?_) (fun c21 => ?_)
        · refine g_iconst (pc := 42) (v := (nI 0)) hX dX3_marked_42 (by decide) ?_
          refine g_top (y := bI false) (by decide) ?_
          exact hret (v := false) (u := ()) dX3_marked_43 (by rw [show cMark (U, L, rd, wr) 0 (nI j) = false from by unfold cMark cTier; rw [if_pos rfl]; show (okPg (nI j) && U.2.2.1.1 (nI j).toNatClampNeg) = false; rw [okPg_nI hj, nI_clamp (by omega)]; rw [iU.2.1 c21]; rfl]) rfl
        · have hpl : U.1.1 = 1 := c21
          refine g_aload_n (pc := 24) hX dX3_marked_24 rfl 0 rfl ?_
          refine g_get (pc := 25) (C := RX3) (T := TX3) (N := 11) (ci := 3) (v := .ref (am 5)) hX inX3_marked_X3 0 rfl rfl 5 (by decide) flX3_marked_25 rfl rfl dX3_marked_25 ?_
          refine g_bipush (pc := 28) (v := (nI 64)) hX dX3_marked_28 (by decide) ?_
          refine g_iload_n (pc := 30) hX dX3_marked_30 rfl 1 rfl ?_
          refine g_imulN (pc := 31) (r := 0) hX dX3_marked_31 (by first | rfl | omega) ?_
          refine g_iload_n (pc := 32) hX dX3_marked_32 rfl 2 rfl ?_
          refine g_iaddN (pc := 33) (r := 0 + j) hX dX3_marked_33 (by first | rfl | omega) ?_
          refine g_zald (pc := 34) (v := (bI (U.2.2.1.1 j))) hX 6 rfl (by omega) (by omega) (hM.2.2.2.2.1 0 (by omega) j hj) dX3_marked_34 ?_
          refine g_ifB_eq (pc := 35) (tgt := 42) hX dX3_marked_35 (by decide) (fun c35 => ?_) (fun c35 => ?_)
          · refine g_iconst (pc := 42) (v := (nI 0)) hX dX3_marked_42 (by decide) ?_
            refine g_top (y := bI false) (by decide) ?_
            exact hret (v := false) (u := ()) dX3_marked_43 (by rw [show cMark (U, L, rd, wr) 0 (nI j) = false from by unfold cMark cTier; rw [if_pos rfl]; show (okPg (nI j) && U.2.2.1.1 (nI j).toNatClampNeg) = false; rw [okPg_nI hj, nI_clamp (by omega)]; rw [c35]; rfl]) rfl
          · refine g_iconst (pc := 38) (v := (nI 1)) hX dX3_marked_38 (by decide) ?_
            refine g_goto (pc := 39) (tgt := 43) hX dX3_marked_39 (by decide) ?_
            refine g_top (y := bI true) (by decide) ?_
            exact hret (v := true) (u := ()) dX3_marked_43 (by rw [show cMark (U, L, rd, wr) 0 (nI j) = true from by unfold cMark cTier; rw [if_pos rfl]; show (okPg (nI j) && U.2.2.1.1 (nI j).toNatClampNeg) = true; rw [okPg_nI hj, nI_clamp (by omega)]; rw [c35]; rfl]) rfl
    · subst e1
      refine g_lv (lv' := [(0, .ref m), (1, .int (nI 1)), (2, .int x)]) rfl ?_
      refine g_iload_n (pc := 7) hX dX3_marked_7 rfl 2 rfl ?_
      refine g_ci (pc := 8) hX (wc := []) (wr := [(m, .inr (3, [.ref (am 0), .ref (am 1), .ref (am 2), .ref (am 3), .ref (am 4), .ref (am 5), .ref (am 6), .ref (am 7), .int rd, .int wr, .int vi])), (am 0, .inl (K.2.1, 2, .inl po)), (am 1, .inl (K.2.1, 2, .inl ca)), (am 2, .inl (K.2.1, 2, .inl go)), (am 3, .inl (K.2.1, 8, .inl le)), (am 4, .inl (K.2.1, 160, .inl pg)), (am 5, .inl (K.2.2.1, 128, .inl mk)), (am 6, .inl (K.2.2.1, 128, .inl we)), (am 7, .inl (K.2.1, 6, .inl co))]) (Wd' := fun u => [(m, .inr (3, [.ref (am 0), .ref (am 1), .ref (am 2), .ref (am 3), .ref (am 4), .ref (am 5), .ref (am 6), .ref (am 7), .int rd, .int wr, .int vi])), (am 0, .inl (K.2.1, 2, .inl po)), (am 1, .inl (K.2.1, 2, .inl ca)), (am 2, .inl (K.2.1, 2, .inl go)), (am 3, .inl (K.2.1, 8, .inl le)), (am 4, .inl (K.2.1, 160, .inl pg)), (am 5, .inl (K.2.2.1, 128, .inl mk)), (am 6, .inl (K.2.2.1, 128, .inl we)), (am 7, .inl (K.2.1, 6, .inl co))]) (g_goS (pc := 8) hX (As := [.int x]) (stk := []) (wc := []) (c_X3_isPage l K x) rfl rfl rfl gX3_marked_X3_isPage nX3_isPageS ⟨(Nat.le_of_ble_eq_true rfl), (Nat.le_of_ble_eq_true rfl)⟩ [] rfl rfl rfl (Nat.le_of_ble_eq_true rfl) dX3_marked_8 ⟨(Nat.le_of_ble_eq_true rfl), (Nat.le_of_ble_eq_true rfl)⟩) [] [0, 1, 2, 3, 4, 5, 6, 7, 8] [0, 1, 2, 3, 4, 5, 6, 7, 8] rfl rfl rfl (by decide) rfl (fun _ => rfl) (fun r u h8 => ?_)
      obtain rfl := h8
      refine g_ifB_eq (pc := 11) (tgt := 42) hX dX3_marked_11 (by decide) (fun c11 => ?_) (fun c11 => ?_)
      · refine g_iconst (pc := 42) (v := (nI 0)) hX dX3_marked_42 (by decide) ?_
        refine g_top (y := bI false) (by decide) ?_
        exact hret (v := false) (u := ()) dX3_marked_43 (by rw [show cMark (U, L, rd, wr) 1 (x) = false from by unfold cMark cTier; rw [if_neg (by decide), if_pos rfl]; show (okPg x && _) = false; rw [c11]; rfl]) rfl
      · obtain ⟨j, hj, rfl⟩ := okPg_of c11
        refine g_aload_n (pc := 14) hX dX3_marked_14 rfl 0 rfl ?_
        refine g_get (pc := 15) (C := RX3) (T := TX3) (N := 11) (ci := 3) (v := .ref (am 0)) hX inX3_marked_X3 0 rfl rfl 0 (by decide) flX3_marked_7 rfl rfl dX3_marked_15 ?_
        refine g_iload_n (pc := 18) hX dX3_marked_18 rfl 1 rfl ?_
        refine g_iald (pc := 19) (v := (nI L.1.1)) hX 1 rfl (by omega) (by omega) (hM.1 1 (by omega)) dX3_marked_19 ?_
        refine g_iconst (pc := 20) (v := (nI 1)) hX dX3_marked_20 (by decide) ?_
        refine g_icmpN_ne (pc := 21) (tgt := 42) hX (by omega) (by omega) dX3_marked_21 (by decide) (fun c21 => ?_) (fun c21 => ?_)
        · refine g_iconst (pc := 42) (v := (nI 0)) hX dX3_marked_42 (by decide) ?_
          refine g_top (y := bI false) (by decide) ?_
          exact hret (v := false) (u := ()) dX3_marked_43 (by rw [show cMark (U, L, rd, wr) 1 (nI j) = false from by unfold cMark cTier; rw [if_neg (by decide), if_pos rfl]; show (okPg (nI j) && L.2.2.1.1 (nI j).toNatClampNeg) = false; rw [okPg_nI hj, nI_clamp (by omega)]; rw [iL.2.1 c21]; rfl]) rfl
        · have hpl : L.1.1 = 1 := c21
          refine g_aload_n (pc := 24) hX dX3_marked_24 rfl 0 rfl ?_
          refine g_get (pc := 25) (C := RX3) (T := TX3) (N := 11) (ci := 3) (v := .ref (am 5)) hX inX3_marked_X3 0 rfl rfl 5 (by decide) flX3_marked_25 rfl rfl dX3_marked_25 ?_
          refine g_bipush (pc := 28) (v := (nI 64)) hX dX3_marked_28 (by decide) ?_
          refine g_iload_n (pc := 30) hX dX3_marked_30 rfl 1 rfl ?_
          refine g_imulN (pc := 31) (r := 64) hX dX3_marked_31 (by first | rfl | omega) ?_
          refine g_iload_n (pc := 32) hX dX3_marked_32 rfl 2 rfl ?_
          refine g_iaddN (pc := 33) (r := 64 + j) hX dX3_marked_33 (by first | rfl | omega) ?_
          refine g_zald (pc := 34) (v := (bI (L.2.2.1.1 j))) hX 6 rfl (by omega) (by omega) (hM.2.2.2.2.1 1 (by omega) j hj) dX3_marked_34 ?_
          refine g_ifB_eq (pc := 35) (tgt := 42) hX dX3_marked_35 (by decide) (fun c35 => ?_) (fun c35 => ?_)
          · refine g_iconst (pc := 42) (v := (nI 0)) hX dX3_marked_42 (by decide) ?_
            refine g_top (y := bI false) (by decide) ?_
            exact hret (v := false) (u := ()) dX3_marked_43 (by rw [show cMark (U, L, rd, wr) 1 (nI j) = false from by unfold cMark cTier; rw [if_neg (by decide), if_pos rfl]; show (okPg (nI j) && L.2.2.1.1 (nI j).toNatClampNeg) = false; rw [okPg_nI hj, nI_clamp (by omega)]; rw [c35]; rfl]) rfl
          · refine g_iconst (pc := 38) (v := (nI 1)) hX dX3_marked_38 (by decide) ?_
            refine g_goto (pc := 39) (tgt := 43) hX dX3_marked_39 (by decide) ?_
            refine g_top (y := bI true) (by decide) ?_
            exact hret (v := true) (u := ()) dX3_marked_43 (by rw [show cMark (U, L, rd, wr) 1 (nI j) = true from by unfold cMark cTier; rw [if_neg (by decide), if_pos rfl]; show (okPg (nI j) && L.2.2.1.1 (nI j).toNatClampNeg) = true; rw [okPg_nI hj, nI_clamp (by omega)]; rw [c35]; rfl]) rfl
abbrev rmX3_goal : Room := { frames := 1, cells := 0, slots := 0, locals := 20 }
theorem flX3_goal_7 : Cond.fieldLink RX3 7 "TwoTierCacheModel" "policies" "[I" ∈ wsX3_goal := by decide +kernel
theorem inX3_goal_X3 : ∀ w ∈ u_ws RX3 TX3 11, w ∈ wsX3_goal := by decide +kernel
theorem flX3_goal_16 : Cond.fieldLink RX3 16 "TwoTierCacheModel" "goals" "[I" ∈ wsX3_goal := by decide +kernel
set_option maxHeartbeats 4000000 in
set_option maxRecDepth 100000 in
/-- goal -/
theorem c_X3_goal (l : Launch) (K : gT) (m : Nat) (am : Nat → Nat) (po ca go le pg mk we co : Nat → Int32) (rd wr vi : Int32) (U L : TS) (hM : mR (sF U L) po ca go le pg mk we co) (iU : tInv U) (iL : tInv L) (t : Int32) : Ci l yX3_goal wsX3_goal rmX3_goal K [.ref m, .int t] (mW K m am po ca go le pg mk we co rd wr vi) (fun (r : Int32) (u : Unit) => r = cGoal (U, L, rd, wr) t) (fun u => mW K m am po ca go le pg mk we co rd wr vi) 0 0 := by
  refine m_i (cc := cX3_goal) (own := RX3) (maxL := 2) (lv0 := [(0, .ref m), (1, .int t)]) (by decide) rfl rfl (Nat.le_of_ble_eq_true rfl) rfl ?_
  intro X hX hin hret
  refine g_ws (ws' := [(m, .inr (3, [.ref (am 0), .ref (am 1), .ref (am 2), .ref (am 3), .ref (am 4), .ref (am 5), .ref (am 6), .ref (am 7), .int rd, .int wr, .int vi])), (am 0, .inl (K.2.1, 2, .inl po)), (am 1, .inl (K.2.1, 2, .inl ca)), (am 2, .inl (K.2.1, 2, .inl go)), (am 3, .inl (K.2.1, 8, .inl le)), (am 4, .inl (K.2.1, 160, .inl pg)), (am 5, .inl (K.2.2.1, 128, .inl mk)), (am 6, .inl (K.2.2.1, 128, .inl we)), (am 7, .inl (K.2.1, 6, .inl co))]) rfl ?_
  have hpU := iU.1.2.2.1
  have hpL := iL.1.2.2.1
  refine g_iload_n (pc := 0) hX dX3_goal_0 rfl 1 rfl ?_
  refine g_ci (pc := 1) hX (wc := []) (wr := [(m, .inr (3, [.ref (am 0), .ref (am 1), .ref (am 2), .ref (am 3), .ref (am 4), .ref (am 5), .ref (am 6), .ref (am 7), .int rd, .int wr, .int vi])), (am 0, .inl (K.2.1, 2, .inl po)), (am 1, .inl (K.2.1, 2, .inl ca)), (am 2, .inl (K.2.1, 2, .inl go)), (am 3, .inl (K.2.1, 8, .inl le)), (am 4, .inl (K.2.1, 160, .inl pg)), (am 5, .inl (K.2.2.1, 128, .inl mk)), (am 6, .inl (K.2.2.1, 128, .inl we)), (am 7, .inl (K.2.1, 6, .inl co))]) (Wd' := fun u => [(m, .inr (3, [.ref (am 0), .ref (am 1), .ref (am 2), .ref (am 3), .ref (am 4), .ref (am 5), .ref (am 6), .ref (am 7), .int rd, .int wr, .int vi])), (am 0, .inl (K.2.1, 2, .inl po)), (am 1, .inl (K.2.1, 2, .inl ca)), (am 2, .inl (K.2.1, 2, .inl go)), (am 3, .inl (K.2.1, 8, .inl le)), (am 4, .inl (K.2.1, 160, .inl pg)), (am 5, .inl (K.2.2.1, 128, .inl mk)), (am 6, .inl (K.2.2.1, 128, .inl we)), (am 7, .inl (K.2.1, 6, .inl co))]) (g_goS (pc := 1) hX (As := [.int t]) (stk := []) (wc := []) (c_X3_isTier l K t) rfl rfl rfl gX3_goal_X3_isTier nX3_isTierS ⟨(Nat.le_of_ble_eq_true rfl), (Nat.le_of_ble_eq_true rfl)⟩ [] rfl rfl rfl (Nat.le_of_ble_eq_true rfl) dX3_goal_1 ⟨(Nat.le_of_ble_eq_true rfl), (Nat.le_of_ble_eq_true rfl)⟩) [] [0, 1, 2, 3, 4, 5, 6, 7, 8] [0, 1, 2, 3, 4, 5, 6, 7, 8] rfl rfl rfl (by decide) rfl (fun _ => rfl) (fun r u h1 => ?_)
  obtain rfl := h1
  refine g_ifB_eq (pc := 4) (tgt := 26) hX dX3_goal_4 (by decide) (fun c4 => ?_) (fun c4 => ?_)
  · obtain ⟨n0, n1⟩ := okT_no c4
    refine g_iconst (pc := 26) (v := (-1)) hX dX3_goal_26 (by decide) ?_
    exact hret (u := ()) dX3_goal_27 (by unfold cGoal cTier; rw [if_neg n0, if_neg n1]) rfl
  · rcases okT_of c4 with e0 | e1
    · subst e0
      refine g_lv (lv' := [(0, .ref m), (1, .int (nI 0))]) rfl ?_
      refine g_aload_n (pc := 7) hX dX3_goal_7 rfl 0 rfl ?_
      refine g_get (pc := 8) (C := RX3) (T := TX3) (N := 11) (ci := 3) (v := .ref (am 0)) hX inX3_goal_X3 0 rfl rfl 0 (by decide) flX3_goal_7 rfl rfl dX3_goal_8 ?_
      refine g_iload_n (pc := 11) hX dX3_goal_11 rfl 1 rfl ?_
      refine g_iald (pc := 12) (v := (nI U.1.1)) hX 1 rfl (by omega) (by omega) (hM.1 0 (by omega)) dX3_goal_12 ?_
      refine g_iconst (pc := 13) (v := (nI 3)) hX dX3_goal_13 (by decide) ?_
      refine g_icmpN_ne (pc := 14) (tgt := 26) hX (by omega) (by omega) dX3_goal_14 (by decide) (fun c14 => ?_) (fun c14 => ?_)
      · refine g_iconst (pc := 26) (v := (-1)) hX dX3_goal_26 (by decide) ?_
        exact hret (u := ()) dX3_goal_27 (by unfold cGoal cTier; rw [if_pos rfl]; exact (if_neg c14).symm) rfl
      · refine g_aload_n (pc := 17) hX dX3_goal_17 rfl 0 rfl ?_
        refine g_get (pc := 18) (C := RX3) (T := TX3) (N := 11) (ci := 3) (v := .ref (am 2)) hX inX3_goal_X3 0 rfl rfl 2 (by decide) flX3_goal_16 rfl rfl dX3_goal_18 ?_
        refine g_iload_n (pc := 21) hX dX3_goal_21 rfl 1 rfl ?_
        refine g_iald (pc := 22) (v := (nI U.1.2.2)) hX 3 rfl (by omega) (by omega) (hM.2.2.1 0 (by omega)) dX3_goal_22 ?_
        refine g_goto (pc := 23) (tgt := 27) hX dX3_goal_23 (by decide) ?_
        exact hret (u := ()) dX3_goal_27 (by unfold cGoal cTier; rw [if_pos rfl]; exact (if_pos c14).symm) rfl
    · subst e1
      refine g_lv (lv' := [(0, .ref m), (1, .int (nI 1))]) rfl ?_
      refine g_aload_n (pc := 7) hX dX3_goal_7 rfl 0 rfl ?_
      refine g_get (pc := 8) (C := RX3) (T := TX3) (N := 11) (ci := 3) (v := .ref (am 0)) hX inX3_goal_X3 0 rfl rfl 0 (by decide) flX3_goal_7 rfl rfl dX3_goal_8 ?_
      refine g_iload_n (pc := 11) hX dX3_goal_11 rfl 1 rfl ?_
      refine g_iald (pc := 12) (v := (nI L.1.1)) hX 1 rfl (by omega) (by omega) (hM.1 1 (by omega)) dX3_goal_12 ?_
      refine g_iconst (pc := 13) (v := (nI 3)) hX dX3_goal_13 (by decide) ?_
      refine g_icmpN_ne (pc := 14) (tgt := 26) hX (by omega) (by omega) dX3_goal_14 (by decide) (fun c14 => ?_) (fun c14 => ?_)
      · refine g_iconst (pc := 26) (v := (-1)) hX dX3_goal_26 (by decide) ?_
        exact hret (u := ()) dX3_goal_27 (by unfold cGoal cTier; rw [if_neg (by decide), if_pos rfl]; exact (if_neg c14).symm) rfl
      · refine g_aload_n (pc := 17) hX dX3_goal_17 rfl 0 rfl ?_
        refine g_get (pc := 18) (C := RX3) (T := TX3) (N := 11) (ci := 3) (v := .ref (am 2)) hX inX3_goal_X3 0 rfl rfl 2 (by decide) flX3_goal_16 rfl rfl dX3_goal_18 ?_
        refine g_iload_n (pc := 21) hX dX3_goal_21 rfl 1 rfl ?_
        refine g_iald (pc := 22) (v := (nI L.1.2.2)) hX 3 rfl (by omega) (by omega) (hM.2.2.1 1 (by omega)) dX3_goal_22 ?_
        refine g_goto (pc := 23) (tgt := 27) hX dX3_goal_23 (by decide) ?_
        exact hret (u := ()) dX3_goal_27 (by unfold cGoal cTier; rw [if_neg (by decide), if_pos rfl]; exact (if_pos c14).symm) rfl
abbrev rmX3_count : Room := { frames := 1, cells := 0, slots := 0, locals := 20 }
theorem flX3_count_32 : Cond.fieldLink RX3 32 "TwoTierCacheModel" "counts" "[I" ∈ wsX3_count := by decide +kernel
theorem inX3_count_X3 : ∀ w ∈ u_ws RX3 TX3 11, w ∈ wsX3_count := by decide +kernel
set_option maxHeartbeats 4000000 in
set_option maxRecDepth 100000 in
/-- count -/
theorem c_X3_count (l : Launch) (K : gT) (m : Nat) (am : Nat → Nat) (po ca go le pg mk we co : Nat → Int32) (rd wr vi : Int32) (U L : TS) (hM : mR (sF U L) po ca go le pg mk we co) (iU : tInv U) (iL : tInv L) (t k : Int32) : Ci l yX3_count wsX3_count rmX3_count K [.ref m, .int t, .int k] (mW K m am po ca go le pg mk we co rd wr vi) (fun (r : Int32) (u : Unit) => r = cCount (U, L, rd, wr) t k) (fun u => mW K m am po ca go le pg mk we co rd wr vi) 0 0 := by
  refine m_i (cc := cX3_count) (own := RX3) (maxL := 3) (lv0 := [(0, .ref m), (1, .int t), (2, .int k)]) (by decide) rfl rfl (Nat.le_of_ble_eq_true rfl) rfl ?_
  intro X hX hin hret
  refine g_ws (ws' := [(m, .inr (3, [.ref (am 0), .ref (am 1), .ref (am 2), .ref (am 3), .ref (am 4), .ref (am 5), .ref (am 6), .ref (am 7), .int rd, .int wr, .int vi])), (am 0, .inl (K.2.1, 2, .inl po)), (am 1, .inl (K.2.1, 2, .inl ca)), (am 2, .inl (K.2.1, 2, .inl go)), (am 3, .inl (K.2.1, 8, .inl le)), (am 4, .inl (K.2.1, 160, .inl pg)), (am 5, .inl (K.2.2.1, 128, .inl mk)), (am 6, .inl (K.2.2.1, 128, .inl we)), (am 7, .inl (K.2.1, 6, .inl co))]) rfl ?_
  refine g_iload_n (pc := 0) hX dX3_count_0 rfl 1 rfl ?_
  refine g_ci (pc := 1) hX (wc := []) (wr := [(m, .inr (3, [.ref (am 0), .ref (am 1), .ref (am 2), .ref (am 3), .ref (am 4), .ref (am 5), .ref (am 6), .ref (am 7), .int rd, .int wr, .int vi])), (am 0, .inl (K.2.1, 2, .inl po)), (am 1, .inl (K.2.1, 2, .inl ca)), (am 2, .inl (K.2.1, 2, .inl go)), (am 3, .inl (K.2.1, 8, .inl le)), (am 4, .inl (K.2.1, 160, .inl pg)), (am 5, .inl (K.2.2.1, 128, .inl mk)), (am 6, .inl (K.2.2.1, 128, .inl we)), (am 7, .inl (K.2.1, 6, .inl co))]) (Wd' := fun u => [(m, .inr (3, [.ref (am 0), .ref (am 1), .ref (am 2), .ref (am 3), .ref (am 4), .ref (am 5), .ref (am 6), .ref (am 7), .int rd, .int wr, .int vi])), (am 0, .inl (K.2.1, 2, .inl po)), (am 1, .inl (K.2.1, 2, .inl ca)), (am 2, .inl (K.2.1, 2, .inl go)), (am 3, .inl (K.2.1, 8, .inl le)), (am 4, .inl (K.2.1, 160, .inl pg)), (am 5, .inl (K.2.2.1, 128, .inl mk)), (am 6, .inl (K.2.2.1, 128, .inl we)), (am 7, .inl (K.2.1, 6, .inl co))]) (g_goS (pc := 1) hX (As := [.int t]) (stk := []) (wc := []) (c_X3_isTier l K t) rfl rfl rfl gX3_count_X3_isTier nX3_isTierS ⟨(Nat.le_of_ble_eq_true rfl), (Nat.le_of_ble_eq_true rfl)⟩ [] rfl rfl rfl (Nat.le_of_ble_eq_true rfl) dX3_count_1 ⟨(Nat.le_of_ble_eq_true rfl), (Nat.le_of_ble_eq_true rfl)⟩) [] [0, 1, 2, 3, 4, 5, 6, 7, 8] [0, 1, 2, 3, 4, 5, 6, 7, 8] rfl rfl rfl (by decide) rfl (fun _ => rfl) (fun r u h1 => ?_)
  obtain rfl := h1
  refine g_ifB_eq (pc := 4) (tgt := 29) hX dX3_count_4 (by decide) (fun c4 => ?_) (fun c4 => ?_)
  · obtain ⟨n0, n1⟩ := okT_no c4
    refine g_iconst (pc := 29) (v := (-1)) hX dX3_count_29 (by decide) ?_
    exact hret (u := ()) dX3_count_30 (by unfold cCount cTier; rw [if_neg n0, if_neg n1]) rfl
  · rcases okT_of c4 with e0 | e1
    · subst e0
      refine g_lv (lv' := [(0, .ref m), (1, .int (nI 0)), (2, .int k)]) rfl ?_
      refine g_iload_n (pc := 7) hX dX3_count_7 rfl 2 rfl ?_
      refine g_if_lt (pc := 8) (tgt := 29) hX dX3_count_8 (by decide) (fun c8 => ?_) (fun c8 => ?_)
      · refine g_iconst (pc := 29) (v := (-1)) hX dX3_count_29 (by decide) ?_
        exact hret (u := ()) dX3_count_30 (by unfold cCount cTier; rw [if_pos rfl]; show _ = sCount _ _ _ k; unfold sCount; rw [if_neg (fun q => absurd c8 (by rw [q]; decide)), if_neg (fun q => absurd c8 (by rw [q]; decide)), if_neg (fun q => absurd c8 (by rw [q]; decide))]) rfl
      · refine g_iload_n (pc := 11) hX dX3_count_11 rfl 2 rfl ?_
        refine g_iconst (pc := 12) (v := (nI 3)) hX dX3_count_12 (by decide) ?_
        refine g_icmp_ge (pc := 13) (tgt := 29) hX dX3_count_13 (by decide) (fun c13 => ?_) (fun c13 => ?_)
        · refine g_iconst (pc := 29) (v := (-1)) hX dX3_count_29 (by decide) ?_
          exact hret (u := ()) dX3_count_30 (by unfold cCount cTier; rw [if_pos rfl]; show _ = sCount _ _ _ k; unfold sCount; rw [if_neg (fun q => absurd c13 (by rw [q]; decide)), if_neg (fun q => absurd c13 (by rw [q]; decide)), if_neg (fun q => absurd c13 (by rw [q]; decide))]) rfl
        · obtain ⟨q, hq, rfl⟩ := nI_ex (by omega) c8 c13
          rcases (show q = 0 ∨ q = 1 ∨ q = 2 by omega) with rfl | rfl | rfl
          · refine g_aload_n (pc := 16) hX dX3_count_16 rfl 0 rfl ?_
            refine g_get (pc := 17) (C := RX3) (T := TX3) (N := 11) (ci := 3) (v := .ref (am 7)) hX inX3_count_X3 0 rfl rfl 7 (by decide) flX3_count_32 rfl rfl dX3_count_17 ?_
            refine g_iconst (pc := 20) (v := (nI 3)) hX dX3_count_20 (by decide) ?_
            refine g_iload_n (pc := 21) hX dX3_count_21 rfl 1 rfl ?_
            refine g_imulN (pc := 22) (r := 0) hX dX3_count_22 (by first | rfl | omega) ?_
            refine g_iload_n (pc := 23) hX dX3_count_23 rfl 2 rfl ?_
            refine g_iaddN (pc := 24) (r := 0) hX dX3_count_24 (by first | rfl | omega) ?_
            refine g_iald (pc := 25) (v := U.2.2.2.1) hX 8 rfl (by omega) (by omega) (hM.2.2.2.2.2.2 0 (by omega)).1 dX3_count_25 ?_
            refine g_goto (pc := 26) (tgt := 30) hX dX3_count_26 (by decide) ?_
            exact hret (u := ()) dX3_count_30 (by unfold cCount cTier; rw [if_pos rfl]; rfl) rfl
          · refine g_aload_n (pc := 16) hX dX3_count_16 rfl 0 rfl ?_
            refine g_get (pc := 17) (C := RX3) (T := TX3) (N := 11) (ci := 3) (v := .ref (am 7)) hX inX3_count_X3 0 rfl rfl 7 (by decide) flX3_count_32 rfl rfl dX3_count_17 ?_
            refine g_iconst (pc := 20) (v := (nI 3)) hX dX3_count_20 (by decide) ?_
            refine g_iload_n (pc := 21) hX dX3_count_21 rfl 1 rfl ?_
            refine g_imulN (pc := 22) (r := 0) hX dX3_count_22 (by first | rfl | omega) ?_
            refine g_iload_n (pc := 23) hX dX3_count_23 rfl 2 rfl ?_
            refine g_iaddN (pc := 24) (r := 1) hX dX3_count_24 (by first | rfl | omega) ?_
            refine g_iald (pc := 25) (v := U.2.2.2.2.1) hX 8 rfl (by omega) (by omega) (hM.2.2.2.2.2.2 0 (by omega)).2.1 dX3_count_25 ?_
            refine g_goto (pc := 26) (tgt := 30) hX dX3_count_26 (by decide) ?_
            exact hret (u := ()) dX3_count_30 (by unfold cCount cTier; rw [if_pos rfl]; rfl) rfl
          · refine g_aload_n (pc := 16) hX dX3_count_16 rfl 0 rfl ?_
            refine g_get (pc := 17) (C := RX3) (T := TX3) (N := 11) (ci := 3) (v := .ref (am 7)) hX inX3_count_X3 0 rfl rfl 7 (by decide) flX3_count_32 rfl rfl dX3_count_17 ?_
            refine g_iconst (pc := 20) (v := (nI 3)) hX dX3_count_20 (by decide) ?_
            refine g_iload_n (pc := 21) hX dX3_count_21 rfl 1 rfl ?_
            refine g_imulN (pc := 22) (r := 0) hX dX3_count_22 (by first | rfl | omega) ?_
            refine g_iload_n (pc := 23) hX dX3_count_23 rfl 2 rfl ?_
            refine g_iaddN (pc := 24) (r := 2) hX dX3_count_24 (by first | rfl | omega) ?_
            refine g_iald (pc := 25) (v := U.2.2.2.2.2) hX 8 rfl (by omega) (by omega) (hM.2.2.2.2.2.2 0 (by omega)).2.2 dX3_count_25 ?_
            refine g_goto (pc := 26) (tgt := 30) hX dX3_count_26 (by decide) ?_
            exact hret (u := ()) dX3_count_30 (by unfold cCount cTier; rw [if_pos rfl]; rfl) rfl
    · subst e1
      refine g_lv (lv' := [(0, .ref m), (1, .int (nI 1)), (2, .int k)]) rfl ?_
      refine g_iload_n (pc := 7) hX dX3_count_7 rfl 2 rfl ?_
      refine g_if_lt (pc := 8) (tgt := 29) hX dX3_count_8 (by decide) (fun c8 => ?_) (fun c8 => ?_)
      · refine g_iconst (pc := 29) (v := (-1)) hX dX3_count_29 (by decide) ?_
        exact hret (u := ()) dX3_count_30 (by unfold cCount cTier; rw [if_neg (by decide), if_pos rfl]; show _ = sCount _ _ _ k; unfold sCount; rw [if_neg (fun q => absurd c8 (by rw [q]; decide)), if_neg (fun q => absurd c8 (by rw [q]; decide)), if_neg (fun q => absurd c8 (by rw [q]; decide))]) rfl
      · refine g_iload_n (pc := 11) hX dX3_count_11 rfl 2 rfl ?_
        refine g_iconst (pc := 12) (v := (nI 3)) hX dX3_count_12 (by decide) ?_
        refine g_icmp_ge (pc := 13) (tgt := 29) hX dX3_count_13 (by decide) (fun c13 => ?_) (fun c13 => ?_)
        · refine g_iconst (pc := 29) (v := (-1)) hX dX3_count_29 (by decide) ?_
          exact hret (u := ()) dX3_count_30 (by unfold cCount cTier; rw [if_neg (by decide), if_pos rfl]; show _ = sCount _ _ _ k; unfold sCount; rw [if_neg (fun q => absurd c13 (by rw [q]; decide)), if_neg (fun q => absurd c13 (by rw [q]; decide)), if_neg (fun q => absurd c13 (by rw [q]; decide))]) rfl
        · obtain ⟨q, hq, rfl⟩ := nI_ex (by omega) c8 c13
          rcases (show q = 0 ∨ q = 1 ∨ q = 2 by omega) with rfl | rfl | rfl
          · refine g_aload_n (pc := 16) hX dX3_count_16 rfl 0 rfl ?_
            refine g_get (pc := 17) (C := RX3) (T := TX3) (N := 11) (ci := 3) (v := .ref (am 7)) hX inX3_count_X3 0 rfl rfl 7 (by decide) flX3_count_32 rfl rfl dX3_count_17 ?_
            refine g_iconst (pc := 20) (v := (nI 3)) hX dX3_count_20 (by decide) ?_
            refine g_iload_n (pc := 21) hX dX3_count_21 rfl 1 rfl ?_
            refine g_imulN (pc := 22) (r := 3) hX dX3_count_22 (by first | rfl | omega) ?_
            refine g_iload_n (pc := 23) hX dX3_count_23 rfl 2 rfl ?_
            refine g_iaddN (pc := 24) (r := 3) hX dX3_count_24 (by first | rfl | omega) ?_
            refine g_iald (pc := 25) (v := L.2.2.2.1) hX 8 rfl (by omega) (by omega) (hM.2.2.2.2.2.2 1 (by omega)).1 dX3_count_25 ?_
            refine g_goto (pc := 26) (tgt := 30) hX dX3_count_26 (by decide) ?_
            exact hret (u := ()) dX3_count_30 (by unfold cCount cTier; rw [if_neg (by decide), if_pos rfl]; rfl) rfl
          · refine g_aload_n (pc := 16) hX dX3_count_16 rfl 0 rfl ?_
            refine g_get (pc := 17) (C := RX3) (T := TX3) (N := 11) (ci := 3) (v := .ref (am 7)) hX inX3_count_X3 0 rfl rfl 7 (by decide) flX3_count_32 rfl rfl dX3_count_17 ?_
            refine g_iconst (pc := 20) (v := (nI 3)) hX dX3_count_20 (by decide) ?_
            refine g_iload_n (pc := 21) hX dX3_count_21 rfl 1 rfl ?_
            refine g_imulN (pc := 22) (r := 3) hX dX3_count_22 (by first | rfl | omega) ?_
            refine g_iload_n (pc := 23) hX dX3_count_23 rfl 2 rfl ?_
            refine g_iaddN (pc := 24) (r := 4) hX dX3_count_24 (by first | rfl | omega) ?_
            refine g_iald (pc := 25) (v := L.2.2.2.2.1) hX 8 rfl (by omega) (by omega) (hM.2.2.2.2.2.2 1 (by omega)).2.1 dX3_count_25 ?_
            refine g_goto (pc := 26) (tgt := 30) hX dX3_count_26 (by decide) ?_
            exact hret (u := ()) dX3_count_30 (by unfold cCount cTier; rw [if_neg (by decide), if_pos rfl]; rfl) rfl
          · refine g_aload_n (pc := 16) hX dX3_count_16 rfl 0 rfl ?_
            refine g_get (pc := 17) (C := RX3) (T := TX3) (N := 11) (ci := 3) (v := .ref (am 7)) hX inX3_count_X3 0 rfl rfl 7 (by decide) flX3_count_32 rfl rfl dX3_count_17 ?_
            refine g_iconst (pc := 20) (v := (nI 3)) hX dX3_count_20 (by decide) ?_
            refine g_iload_n (pc := 21) hX dX3_count_21 rfl 1 rfl ?_
            refine g_imulN (pc := 22) (r := 3) hX dX3_count_22 (by first | rfl | omega) ?_
            refine g_iload_n (pc := 23) hX dX3_count_23 rfl 2 rfl ?_
            refine g_iaddN (pc := 24) (r := 5) hX dX3_count_24 (by first | rfl | omega) ?_
            refine g_iald (pc := 25) (v := L.2.2.2.2.2) hX 8 rfl (by omega) (by omega) (hM.2.2.2.2.2.2 1 (by omega)).2.2 dX3_count_25 ?_
            refine g_goto (pc := 26) (tgt := 30) hX dX3_count_26 (by decide) ?_
            exact hret (u := ()) dX3_count_30 (by unfold cCount cTier; rw [if_neg (by decide), if_pos rfl]; rfl) rfl
abbrev rmX3_reads : Room := { frames := 0, cells := 0, slots := 0, locals := 0 }
theorem flX3_reads_35 : Cond.fieldLink RX3 35 "TwoTierCacheModel" "reads" "I" ∈ wsX3_reads := by decide +kernel
theorem inX3_reads_X3 : ∀ w ∈ u_ws RX3 TX3 11, w ∈ wsX3_reads := by decide +kernel
set_option maxHeartbeats 4000000 in
set_option maxRecDepth 100000 in
theorem c_X3_reads (l : Launch) (K : gT) (m : Nat) (am : Nat → Nat) (po ca go le pg mk we co : Nat → Int32) (rd wr vi : Int32) : Ci l yX3_reads wsX3_reads rmX3_reads K [.ref m] (mW K m am po ca go le pg mk we co rd wr vi) (fun (r : Int32) (u : Unit) => r = rd) (fun u => mW K m am po ca go le pg mk we co rd wr vi) 0 0 := by
  refine m_i (cc := cX3_reads) (own := RX3) (maxL := 1) (lv0 := [(0, .ref m)]) (by decide) rfl rfl (Nat.le_of_ble_eq_true rfl) rfl ?_
  intro X hX hin hret
  refine g_ws (ws' := [(m, .inr (3, [.ref (am 0), .ref (am 1), .ref (am 2), .ref (am 3), .ref (am 4), .ref (am 5), .ref (am 6), .ref (am 7), .int rd, .int wr, .int vi])), (am 0, .inl (K.2.1, 2, .inl po)), (am 1, .inl (K.2.1, 2, .inl ca)), (am 2, .inl (K.2.1, 2, .inl go)), (am 3, .inl (K.2.1, 8, .inl le)), (am 4, .inl (K.2.1, 160, .inl pg)), (am 5, .inl (K.2.2.1, 128, .inl mk)), (am 6, .inl (K.2.2.1, 128, .inl we)), (am 7, .inl (K.2.1, 6, .inl co))]) rfl ?_
  refine g_aload_n (pc := 0) hX dX3_reads_0 rfl 0 rfl ?_
  refine g_get (pc := 1) (C := RX3) (T := TX3) (N := 11) (ci := 3) (v := .int rd) hX inX3_reads_X3 0 rfl rfl 8 (by decide) flX3_reads_35 rfl rfl dX3_reads_1 ?_
  exact hret (u := ()) dX3_reads_4 rfl rfl
abbrev rmX3_writes : Room := { frames := 0, cells := 0, slots := 0, locals := 0 }
theorem flX3_writes_39 : Cond.fieldLink RX3 39 "TwoTierCacheModel" "writes" "I" ∈ wsX3_writes := by decide +kernel
theorem inX3_writes_X3 : ∀ w ∈ u_ws RX3 TX3 11, w ∈ wsX3_writes := by decide +kernel
set_option maxHeartbeats 4000000 in
set_option maxRecDepth 100000 in
theorem c_X3_writes (l : Launch) (K : gT) (m : Nat) (am : Nat → Nat) (po ca go le pg mk we co : Nat → Int32) (rd wr vi : Int32) : Ci l yX3_writes wsX3_writes rmX3_writes K [.ref m] (mW K m am po ca go le pg mk we co rd wr vi) (fun (r : Int32) (u : Unit) => r = wr) (fun u => mW K m am po ca go le pg mk we co rd wr vi) 0 0 := by
  refine m_i (cc := cX3_writes) (own := RX3) (maxL := 1) (lv0 := [(0, .ref m)]) (by decide) rfl rfl (Nat.le_of_ble_eq_true rfl) rfl ?_
  intro X hX hin hret
  refine g_ws (ws' := [(m, .inr (3, [.ref (am 0), .ref (am 1), .ref (am 2), .ref (am 3), .ref (am 4), .ref (am 5), .ref (am 6), .ref (am 7), .int rd, .int wr, .int vi])), (am 0, .inl (K.2.1, 2, .inl po)), (am 1, .inl (K.2.1, 2, .inl ca)), (am 2, .inl (K.2.1, 2, .inl go)), (am 3, .inl (K.2.1, 8, .inl le)), (am 4, .inl (K.2.1, 160, .inl pg)), (am 5, .inl (K.2.2.1, 128, .inl mk)), (am 6, .inl (K.2.2.1, 128, .inl we)), (am 7, .inl (K.2.1, 6, .inl co))]) rfl ?_
  refine g_aload_n (pc := 0) hX dX3_writes_0 rfl 0 rfl ?_
  refine g_get (pc := 1) (C := RX3) (T := TX3) (N := 11) (ci := 3) (v := .int wr) hX inX3_writes_X3 0 rfl rfl 9 (by decide) flX3_writes_39 rfl rfl dX3_writes_1 ?_
  exact hret (u := ()) dX3_writes_4 rfl rfl
abbrev rmX3_row : Room := { frames := 1, cells := 0, slots := 0, locals := 20 }
theorem flX3_row_19 : Cond.fieldLink RX3 19 "TwoTierCacheModel" "lengths" "[I" ∈ wsX3_row := by decide +kernel
theorem inX3_row_X3 : ∀ w ∈ u_ws RX3 TX3 11, w ∈ wsX3_row := by decide +kernel
theorem flX3_row_22 : Cond.fieldLink RX3 22 "TwoTierCacheModel" "pages" "[I" ∈ wsX3_row := by decide +kernel
set_option maxHeartbeats 4000000 in
set_option maxRecDepth 100000 in
/-- row -/
theorem c_X3_row (l : Launch) (K : gT) (m : Nat) (am : Nat → Nat) (po ca go le pg mk we co : Nat → Int32) (rd wr vi : Int32) (U L : TS) (hM : mR (sF U L) po ca go le pg mk we co) (iU : tInv U) (iL : tInv L) (t r0 i : Int32) : Ci l yX3_row wsX3_row rmX3_row K [.ref m, .int t, .int r0, .int i] (mW K m am po ca go le pg mk we co rd wr vi) (fun (r : Int32) (u : Unit) => r = cRow (U, L, rd, wr) t r0 i) (fun u => mW K m am po ca go le pg mk we co rd wr vi) 0 0 := by
  refine m_i (cc := cX3_row) (own := RX3) (maxL := 4) (lv0 := [(0, .ref m), (1, .int t), (2, .int r0), (3, .int i)]) (by decide) rfl rfl (Nat.le_of_ble_eq_true rfl) rfl ?_
  intro X hX hin hret
  refine g_ws (ws' := [(m, .inr (3, [.ref (am 0), .ref (am 1), .ref (am 2), .ref (am 3), .ref (am 4), .ref (am 5), .ref (am 6), .ref (am 7), .int rd, .int wr, .int vi])), (am 0, .inl (K.2.1, 2, .inl po)), (am 1, .inl (K.2.1, 2, .inl ca)), (am 2, .inl (K.2.1, 2, .inl go)), (am 3, .inl (K.2.1, 8, .inl le)), (am 4, .inl (K.2.1, 160, .inl pg)), (am 5, .inl (K.2.2.1, 128, .inl mk)), (am 6, .inl (K.2.2.1, 128, .inl we)), (am 7, .inl (K.2.1, 6, .inl co))]) rfl ?_
  refine g_iload_n (pc := 0) hX dX3_row_0 rfl 1 rfl ?_
  refine g_ci (pc := 1) hX (wc := []) (wr := [(m, .inr (3, [.ref (am 0), .ref (am 1), .ref (am 2), .ref (am 3), .ref (am 4), .ref (am 5), .ref (am 6), .ref (am 7), .int rd, .int wr, .int vi])), (am 0, .inl (K.2.1, 2, .inl po)), (am 1, .inl (K.2.1, 2, .inl ca)), (am 2, .inl (K.2.1, 2, .inl go)), (am 3, .inl (K.2.1, 8, .inl le)), (am 4, .inl (K.2.1, 160, .inl pg)), (am 5, .inl (K.2.2.1, 128, .inl mk)), (am 6, .inl (K.2.2.1, 128, .inl we)), (am 7, .inl (K.2.1, 6, .inl co))]) (Wd' := fun u => [(m, .inr (3, [.ref (am 0), .ref (am 1), .ref (am 2), .ref (am 3), .ref (am 4), .ref (am 5), .ref (am 6), .ref (am 7), .int rd, .int wr, .int vi])), (am 0, .inl (K.2.1, 2, .inl po)), (am 1, .inl (K.2.1, 2, .inl ca)), (am 2, .inl (K.2.1, 2, .inl go)), (am 3, .inl (K.2.1, 8, .inl le)), (am 4, .inl (K.2.1, 160, .inl pg)), (am 5, .inl (K.2.2.1, 128, .inl mk)), (am 6, .inl (K.2.2.1, 128, .inl we)), (am 7, .inl (K.2.1, 6, .inl co))]) (g_goS (pc := 1) hX (As := [.int t]) (stk := []) (wc := []) (c_X3_isTier l K t) rfl rfl rfl gX3_row_X3_isTier nX3_isTierS ⟨(Nat.le_of_ble_eq_true rfl), (Nat.le_of_ble_eq_true rfl)⟩ [] rfl rfl rfl (Nat.le_of_ble_eq_true rfl) dX3_row_1 ⟨(Nat.le_of_ble_eq_true rfl), (Nat.le_of_ble_eq_true rfl)⟩) [] [0, 1, 2, 3, 4, 5, 6, 7, 8] [0, 1, 2, 3, 4, 5, 6, 7, 8] rfl rfl rfl (by decide) rfl (fun _ => rfl) (fun r u h1 => ?_)
  obtain rfl := h1
  refine g_ifB_eq (pc := 4) (tgt := 34) hX dX3_row_4 (by decide) (fun c4 => ?_) (fun c4 => ?_)
  · obtain ⟨n0, n1⟩ := okT_no c4
    refine g_iconst (pc := 34) (v := (-1)) hX dX3_row_34 (by decide) ?_
    exact hret (u := ()) dX3_row_35 (by unfold cRow cTier; rw [if_neg n0, if_neg n1]) rfl
  · rcases okT_of c4 with e0 | e1
    · subst e0
      refine g_lv (lv' := [(0, .ref m), (1, .int (nI 0)), (2, .int r0), (3, .int i)]) rfl ?_
      refine g_iload_n (pc := 7) hX dX3_row_7 rfl 2 rfl ?_
      refine g_if_lt (pc := 8) (tgt := 34) hX dX3_row_8 (by decide) (fun c8 => ?_) (fun c8 => ?_)
      · refine g_iconst (pc := 34) (v := (-1)) hX dX3_row_34 (by decide) ?_
        exact hret (u := ()) dX3_row_35 (by unfold cRow cTier; rw [if_pos rfl]; show _ = sRow _ _ _ _ r0 i; unfold sRow; rw [if_neg (fun q => absurd c8 (by rw [q]; decide)), if_neg (fun q => absurd c8 (by rw [q]; decide)), if_neg (fun q => absurd c8 (by rw [q]; decide)), if_neg (fun q => absurd c8 (by rw [q]; decide))]) rfl
      · refine g_iload_n (pc := 11) hX dX3_row_11 rfl 2 rfl ?_
        refine g_iconst (pc := 12) (v := (nI 3)) hX dX3_row_12 (by decide) ?_
        refine g_icmp_gt (pc := 13) (tgt := 34) hX dX3_row_13 (by decide) (fun c13 => ?_) (fun c13 => ?_)
        · refine g_iconst (pc := 34) (v := (-1)) hX dX3_row_34 (by decide) ?_
          exact hret (u := ()) dX3_row_35 (by unfold cRow cTier; rw [if_pos rfl]; show _ = sRow _ _ _ _ r0 i; unfold sRow; rw [if_neg (fun q => absurd c13 (by rw [q]; decide)), if_neg (fun q => absurd c13 (by rw [q]; decide)), if_neg (fun q => absurd c13 (by rw [q]; decide)), if_neg (fun q => absurd c13 (by rw [q]; decide))]) rfl
        · obtain ⟨q, hq, rfl⟩ : ∃ q : Nat, q < 4 ∧ r0 = nI q := by
            obtain ⟨q, hq, e⟩ := nI_of2 (M := 3) (n := 3) (by decide) c8 (Int32.not_lt.mp c13)
            exact ⟨q, by omega, e⟩
          rcases (show q = 0 ∨ q = 1 ∨ q = 2 ∨ q = 3 by omega) with rfl | rfl | rfl | rfl
          · have hl20 : U.2.1.1.length ≤ 20 := (hM.2.2.2.1 0 (by omega)).2.1
            refine g_iload_n (pc := 16) hX dX3_row_16 rfl 3 rfl ?_
            refine g_if_lt (pc := 17) (tgt := 34) hX dX3_row_17 (by decide) (fun c17 => ?_) (fun c17 => ?_)
            · refine g_iconst (pc := 34) (v := (-1)) hX dX3_row_34 (by decide) ?_
              exact hret (u := ()) dX3_row_35 (by unfold cRow cTier; rw [if_pos rfl]; show _ = atI U.2.1.1 (i); unfold atI; rw [if_pos c17]) rfl
            · refine g_iload_n (pc := 20) hX dX3_row_20 rfl 3 rfl ?_
              refine g_aload_n (pc := 21) hX dX3_row_21 rfl 0 rfl ?_
              refine g_get (pc := 22) (C := RX3) (T := TX3) (N := 11) (ci := 3) (v := .ref (am 3)) hX inX3_row_X3 0 rfl rfl 3 (by decide) flX3_row_19 rfl rfl dX3_row_22 ?_
              refine g_iconst (pc := 25) (v := (nI 4)) hX dX3_row_25 (by decide) ?_
              refine g_iload_n (pc := 26) hX dX3_row_26 rfl 1 rfl ?_
              refine g_imulN (pc := 27) (r := 0) hX dX3_row_27 (by first | rfl | omega) ?_
              refine g_iload_n (pc := 28) hX dX3_row_28 rfl 2 rfl ?_
              refine g_iaddN (pc := 29) (r := 0) hX dX3_row_29 (by first | rfl | omega) ?_
              refine g_iald (pc := 30) (v := (nI U.2.1.1.length)) hX 4 rfl (by omega) (by omega) (hM.2.2.2.1 0 (by omega)).1 dX3_row_30 ?_
              refine g_icmp_lt (pc := 31) (tgt := 36) hX dX3_row_31 (by decide) (fun c31 => ?_) (fun c31 => ?_)
              · obtain ⟨j, hj, rfl⟩ := nI_ex (n := U.2.1.1.length) (by omega) c17 (Int32.not_le.mpr c31)
                refine g_aload_n (pc := 36) hX dX3_row_36 rfl 0 rfl ?_
                refine g_get (pc := 37) (C := RX3) (T := TX3) (N := 11) (ci := 3) (v := .ref (am 4)) hX inX3_row_X3 0 rfl rfl 4 (by decide) flX3_row_22 rfl rfl dX3_row_37 ?_
                refine g_bipush (pc := 40) (v := (nI 20)) hX dX3_row_40 (by decide) ?_
                refine g_iconst (pc := 42) (v := (nI 4)) hX dX3_row_42 (by decide) ?_
                refine g_iload_n (pc := 43) hX dX3_row_43 rfl 1 rfl ?_
                refine g_imulN (pc := 44) (r := 0) hX dX3_row_44 (by first | rfl | omega) ?_
                refine g_iload_n (pc := 45) hX dX3_row_45 rfl 2 rfl ?_
                refine g_iaddN (pc := 46) (r := 0) hX dX3_row_46 (by first | rfl | omega) ?_
                refine g_imulN (pc := 47) (r := 0) hX dX3_row_47 (by first | rfl | omega) ?_
                refine g_iload_n (pc := 48) hX dX3_row_48 rfl 3 rfl ?_
                refine g_iaddN (pc := 49) (r := 0 + j) hX dX3_row_49 (by first | rfl | omega) ?_
                refine g_iald (pc := 50) (v := (nI (U.2.1.1.getD j 0))) hX 5 rfl (by omega) (by omega) ((hM.2.2.2.1 0 (by omega)).2.2.2 j hj) dX3_row_50 ?_
                exact hret (u := ()) dX3_row_51 (by unfold cRow cTier; rw [if_pos rfl]; show _ = atI U.2.1.1 (nI j); unfold atI; rw [if_neg (nI_pos (by omega)), if_neg (nI_nle2 hj (by omega)), nI_clamp (by omega)]) rfl
              · refine g_iconst (pc := 34) (v := (-1)) hX dX3_row_34 (by decide) ?_
                exact hret (u := ()) dX3_row_35 (by unfold cRow cTier; rw [if_pos rfl]; show _ = atI U.2.1.1 (i); unfold atI; rw [if_neg c17, if_pos (Int32.not_lt.mp c31)]) rfl
          · have hl20 : U.2.1.2.1.length ≤ 20 := (hM.2.2.2.1 1 (by omega)).2.1
            refine g_iload_n (pc := 16) hX dX3_row_16 rfl 3 rfl ?_
            refine g_if_lt (pc := 17) (tgt := 34) hX dX3_row_17 (by decide) (fun c17 => ?_) (fun c17 => ?_)
            · refine g_iconst (pc := 34) (v := (-1)) hX dX3_row_34 (by decide) ?_
              exact hret (u := ()) dX3_row_35 (by unfold cRow cTier; rw [if_pos rfl]; show _ = atI U.2.1.2.1 (i); unfold atI; rw [if_pos c17]) rfl
            · refine g_iload_n (pc := 20) hX dX3_row_20 rfl 3 rfl ?_
              refine g_aload_n (pc := 21) hX dX3_row_21 rfl 0 rfl ?_
              refine g_get (pc := 22) (C := RX3) (T := TX3) (N := 11) (ci := 3) (v := .ref (am 3)) hX inX3_row_X3 0 rfl rfl 3 (by decide) flX3_row_19 rfl rfl dX3_row_22 ?_
              refine g_iconst (pc := 25) (v := (nI 4)) hX dX3_row_25 (by decide) ?_
              refine g_iload_n (pc := 26) hX dX3_row_26 rfl 1 rfl ?_
              refine g_imulN (pc := 27) (r := 0) hX dX3_row_27 (by first | rfl | omega) ?_
              refine g_iload_n (pc := 28) hX dX3_row_28 rfl 2 rfl ?_
              refine g_iaddN (pc := 29) (r := 1) hX dX3_row_29 (by first | rfl | omega) ?_
              refine g_iald (pc := 30) (v := (nI U.2.1.2.1.length)) hX 4 rfl (by omega) (by omega) (hM.2.2.2.1 1 (by omega)).1 dX3_row_30 ?_
              refine g_icmp_lt (pc := 31) (tgt := 36) hX dX3_row_31 (by decide) (fun c31 => ?_) (fun c31 => ?_)
              · obtain ⟨j, hj, rfl⟩ := nI_ex (n := U.2.1.2.1.length) (by omega) c17 (Int32.not_le.mpr c31)
                refine g_aload_n (pc := 36) hX dX3_row_36 rfl 0 rfl ?_
                refine g_get (pc := 37) (C := RX3) (T := TX3) (N := 11) (ci := 3) (v := .ref (am 4)) hX inX3_row_X3 0 rfl rfl 4 (by decide) flX3_row_22 rfl rfl dX3_row_37 ?_
                refine g_bipush (pc := 40) (v := (nI 20)) hX dX3_row_40 (by decide) ?_
                refine g_iconst (pc := 42) (v := (nI 4)) hX dX3_row_42 (by decide) ?_
                refine g_iload_n (pc := 43) hX dX3_row_43 rfl 1 rfl ?_
                refine g_imulN (pc := 44) (r := 0) hX dX3_row_44 (by first | rfl | omega) ?_
                refine g_iload_n (pc := 45) hX dX3_row_45 rfl 2 rfl ?_
                refine g_iaddN (pc := 46) (r := 1) hX dX3_row_46 (by first | rfl | omega) ?_
                refine g_imulN (pc := 47) (r := 20) hX dX3_row_47 (by first | rfl | omega) ?_
                refine g_iload_n (pc := 48) hX dX3_row_48 rfl 3 rfl ?_
                refine g_iaddN (pc := 49) (r := 20 + j) hX dX3_row_49 (by first | rfl | omega) ?_
                refine g_iald (pc := 50) (v := (nI (U.2.1.2.1.getD j 0))) hX 5 rfl (by omega) (by omega) ((hM.2.2.2.1 1 (by omega)).2.2.2 j hj) dX3_row_50 ?_
                exact hret (u := ()) dX3_row_51 (by unfold cRow cTier; rw [if_pos rfl]; show _ = atI U.2.1.2.1 (nI j); unfold atI; rw [if_neg (nI_pos (by omega)), if_neg (nI_nle2 hj (by omega)), nI_clamp (by omega)]) rfl
              · refine g_iconst (pc := 34) (v := (-1)) hX dX3_row_34 (by decide) ?_
                exact hret (u := ()) dX3_row_35 (by unfold cRow cTier; rw [if_pos rfl]; show _ = atI U.2.1.2.1 (i); unfold atI; rw [if_neg c17, if_pos (Int32.not_lt.mp c31)]) rfl
          · have hl20 : U.2.1.2.2.1.length ≤ 20 := (hM.2.2.2.1 2 (by omega)).2.1
            refine g_iload_n (pc := 16) hX dX3_row_16 rfl 3 rfl ?_
            refine g_if_lt (pc := 17) (tgt := 34) hX dX3_row_17 (by decide) (fun c17 => ?_) (fun c17 => ?_)
            · refine g_iconst (pc := 34) (v := (-1)) hX dX3_row_34 (by decide) ?_
              exact hret (u := ()) dX3_row_35 (by unfold cRow cTier; rw [if_pos rfl]; show _ = atI U.2.1.2.2.1 (i); unfold atI; rw [if_pos c17]) rfl
            · refine g_iload_n (pc := 20) hX dX3_row_20 rfl 3 rfl ?_
              refine g_aload_n (pc := 21) hX dX3_row_21 rfl 0 rfl ?_
              refine g_get (pc := 22) (C := RX3) (T := TX3) (N := 11) (ci := 3) (v := .ref (am 3)) hX inX3_row_X3 0 rfl rfl 3 (by decide) flX3_row_19 rfl rfl dX3_row_22 ?_
              refine g_iconst (pc := 25) (v := (nI 4)) hX dX3_row_25 (by decide) ?_
              refine g_iload_n (pc := 26) hX dX3_row_26 rfl 1 rfl ?_
              refine g_imulN (pc := 27) (r := 0) hX dX3_row_27 (by first | rfl | omega) ?_
              refine g_iload_n (pc := 28) hX dX3_row_28 rfl 2 rfl ?_
              refine g_iaddN (pc := 29) (r := 2) hX dX3_row_29 (by first | rfl | omega) ?_
              refine g_iald (pc := 30) (v := (nI U.2.1.2.2.1.length)) hX 4 rfl (by omega) (by omega) (hM.2.2.2.1 2 (by omega)).1 dX3_row_30 ?_
              refine g_icmp_lt (pc := 31) (tgt := 36) hX dX3_row_31 (by decide) (fun c31 => ?_) (fun c31 => ?_)
              · obtain ⟨j, hj, rfl⟩ := nI_ex (n := U.2.1.2.2.1.length) (by omega) c17 (Int32.not_le.mpr c31)
                refine g_aload_n (pc := 36) hX dX3_row_36 rfl 0 rfl ?_
                refine g_get (pc := 37) (C := RX3) (T := TX3) (N := 11) (ci := 3) (v := .ref (am 4)) hX inX3_row_X3 0 rfl rfl 4 (by decide) flX3_row_22 rfl rfl dX3_row_37 ?_
                refine g_bipush (pc := 40) (v := (nI 20)) hX dX3_row_40 (by decide) ?_
                refine g_iconst (pc := 42) (v := (nI 4)) hX dX3_row_42 (by decide) ?_
                refine g_iload_n (pc := 43) hX dX3_row_43 rfl 1 rfl ?_
                refine g_imulN (pc := 44) (r := 0) hX dX3_row_44 (by first | rfl | omega) ?_
                refine g_iload_n (pc := 45) hX dX3_row_45 rfl 2 rfl ?_
                refine g_iaddN (pc := 46) (r := 2) hX dX3_row_46 (by first | rfl | omega) ?_
                refine g_imulN (pc := 47) (r := 40) hX dX3_row_47 (by first | rfl | omega) ?_
                refine g_iload_n (pc := 48) hX dX3_row_48 rfl 3 rfl ?_
                refine g_iaddN (pc := 49) (r := 40 + j) hX dX3_row_49 (by first | rfl | omega) ?_
                refine g_iald (pc := 50) (v := (nI (U.2.1.2.2.1.getD j 0))) hX 5 rfl (by omega) (by omega) ((hM.2.2.2.1 2 (by omega)).2.2.2 j hj) dX3_row_50 ?_
                exact hret (u := ()) dX3_row_51 (by unfold cRow cTier; rw [if_pos rfl]; show _ = atI U.2.1.2.2.1 (nI j); unfold atI; rw [if_neg (nI_pos (by omega)), if_neg (nI_nle2 hj (by omega)), nI_clamp (by omega)]) rfl
              · refine g_iconst (pc := 34) (v := (-1)) hX dX3_row_34 (by decide) ?_
                exact hret (u := ()) dX3_row_35 (by unfold cRow cTier; rw [if_pos rfl]; show _ = atI U.2.1.2.2.1 (i); unfold atI; rw [if_neg c17, if_pos (Int32.not_lt.mp c31)]) rfl
          · have hl20 : U.2.1.2.2.2.length ≤ 20 := (hM.2.2.2.1 3 (by omega)).2.1
            refine g_iload_n (pc := 16) hX dX3_row_16 rfl 3 rfl ?_
            refine g_if_lt (pc := 17) (tgt := 34) hX dX3_row_17 (by decide) (fun c17 => ?_) (fun c17 => ?_)
            · refine g_iconst (pc := 34) (v := (-1)) hX dX3_row_34 (by decide) ?_
              exact hret (u := ()) dX3_row_35 (by unfold cRow cTier; rw [if_pos rfl]; show _ = atI U.2.1.2.2.2 (i); unfold atI; rw [if_pos c17]) rfl
            · refine g_iload_n (pc := 20) hX dX3_row_20 rfl 3 rfl ?_
              refine g_aload_n (pc := 21) hX dX3_row_21 rfl 0 rfl ?_
              refine g_get (pc := 22) (C := RX3) (T := TX3) (N := 11) (ci := 3) (v := .ref (am 3)) hX inX3_row_X3 0 rfl rfl 3 (by decide) flX3_row_19 rfl rfl dX3_row_22 ?_
              refine g_iconst (pc := 25) (v := (nI 4)) hX dX3_row_25 (by decide) ?_
              refine g_iload_n (pc := 26) hX dX3_row_26 rfl 1 rfl ?_
              refine g_imulN (pc := 27) (r := 0) hX dX3_row_27 (by first | rfl | omega) ?_
              refine g_iload_n (pc := 28) hX dX3_row_28 rfl 2 rfl ?_
              refine g_iaddN (pc := 29) (r := 3) hX dX3_row_29 (by first | rfl | omega) ?_
              refine g_iald (pc := 30) (v := (nI U.2.1.2.2.2.length)) hX 4 rfl (by omega) (by omega) (hM.2.2.2.1 3 (by omega)).1 dX3_row_30 ?_
              refine g_icmp_lt (pc := 31) (tgt := 36) hX dX3_row_31 (by decide) (fun c31 => ?_) (fun c31 => ?_)
              · obtain ⟨j, hj, rfl⟩ := nI_ex (n := U.2.1.2.2.2.length) (by omega) c17 (Int32.not_le.mpr c31)
                refine g_aload_n (pc := 36) hX dX3_row_36 rfl 0 rfl ?_
                refine g_get (pc := 37) (C := RX3) (T := TX3) (N := 11) (ci := 3) (v := .ref (am 4)) hX inX3_row_X3 0 rfl rfl 4 (by decide) flX3_row_22 rfl rfl dX3_row_37 ?_
                refine g_bipush (pc := 40) (v := (nI 20)) hX dX3_row_40 (by decide) ?_
                refine g_iconst (pc := 42) (v := (nI 4)) hX dX3_row_42 (by decide) ?_
                refine g_iload_n (pc := 43) hX dX3_row_43 rfl 1 rfl ?_
                refine g_imulN (pc := 44) (r := 0) hX dX3_row_44 (by first | rfl | omega) ?_
                refine g_iload_n (pc := 45) hX dX3_row_45 rfl 2 rfl ?_
                refine g_iaddN (pc := 46) (r := 3) hX dX3_row_46 (by first | rfl | omega) ?_
                refine g_imulN (pc := 47) (r := 60) hX dX3_row_47 (by first | rfl | omega) ?_
                refine g_iload_n (pc := 48) hX dX3_row_48 rfl 3 rfl ?_
                refine g_iaddN (pc := 49) (r := 60 + j) hX dX3_row_49 (by first | rfl | omega) ?_
                refine g_iald (pc := 50) (v := (nI (U.2.1.2.2.2.getD j 0))) hX 5 rfl (by omega) (by omega) ((hM.2.2.2.1 3 (by omega)).2.2.2 j hj) dX3_row_50 ?_
                exact hret (u := ()) dX3_row_51 (by unfold cRow cTier; rw [if_pos rfl]; show _ = atI U.2.1.2.2.2 (nI j); unfold atI; rw [if_neg (nI_pos (by omega)), if_neg (nI_nle2 hj (by omega)), nI_clamp (by omega)]) rfl
              · refine g_iconst (pc := 34) (v := (-1)) hX dX3_row_34 (by decide) ?_
                exact hret (u := ()) dX3_row_35 (by unfold cRow cTier; rw [if_pos rfl]; show _ = atI U.2.1.2.2.2 (i); unfold atI; rw [if_neg c17, if_pos (Int32.not_lt.mp c31)]) rfl
    · subst e1
      refine g_lv (lv' := [(0, .ref m), (1, .int (nI 1)), (2, .int r0), (3, .int i)]) rfl ?_
      refine g_iload_n (pc := 7) hX dX3_row_7 rfl 2 rfl ?_
      refine g_if_lt (pc := 8) (tgt := 34) hX dX3_row_8 (by decide) (fun c8 => ?_) (fun c8 => ?_)
      · refine g_iconst (pc := 34) (v := (-1)) hX dX3_row_34 (by decide) ?_
        exact hret (u := ()) dX3_row_35 (by unfold cRow cTier; rw [if_neg (by decide), if_pos rfl]; show _ = sRow _ _ _ _ r0 i; unfold sRow; rw [if_neg (fun q => absurd c8 (by rw [q]; decide)), if_neg (fun q => absurd c8 (by rw [q]; decide)), if_neg (fun q => absurd c8 (by rw [q]; decide)), if_neg (fun q => absurd c8 (by rw [q]; decide))]) rfl
      · refine g_iload_n (pc := 11) hX dX3_row_11 rfl 2 rfl ?_
        refine g_iconst (pc := 12) (v := (nI 3)) hX dX3_row_12 (by decide) ?_
        refine g_icmp_gt (pc := 13) (tgt := 34) hX dX3_row_13 (by decide) (fun c13 => ?_) (fun c13 => ?_)
        · refine g_iconst (pc := 34) (v := (-1)) hX dX3_row_34 (by decide) ?_
          exact hret (u := ()) dX3_row_35 (by unfold cRow cTier; rw [if_neg (by decide), if_pos rfl]; show _ = sRow _ _ _ _ r0 i; unfold sRow; rw [if_neg (fun q => absurd c13 (by rw [q]; decide)), if_neg (fun q => absurd c13 (by rw [q]; decide)), if_neg (fun q => absurd c13 (by rw [q]; decide)), if_neg (fun q => absurd c13 (by rw [q]; decide))]) rfl
        · obtain ⟨q, hq, rfl⟩ : ∃ q : Nat, q < 4 ∧ r0 = nI q := by
            obtain ⟨q, hq, e⟩ := nI_of2 (M := 3) (n := 3) (by decide) c8 (Int32.not_lt.mp c13)
            exact ⟨q, by omega, e⟩
          rcases (show q = 0 ∨ q = 1 ∨ q = 2 ∨ q = 3 by omega) with rfl | rfl | rfl | rfl
          · have hl20 : L.2.1.1.length ≤ 20 := (hM.2.2.2.1 4 (by omega)).2.1
            refine g_iload_n (pc := 16) hX dX3_row_16 rfl 3 rfl ?_
            refine g_if_lt (pc := 17) (tgt := 34) hX dX3_row_17 (by decide) (fun c17 => ?_) (fun c17 => ?_)
            · refine g_iconst (pc := 34) (v := (-1)) hX dX3_row_34 (by decide) ?_
              exact hret (u := ()) dX3_row_35 (by unfold cRow cTier; rw [if_neg (by decide), if_pos rfl]; show _ = atI L.2.1.1 (i); unfold atI; rw [if_pos c17]) rfl
            · refine g_iload_n (pc := 20) hX dX3_row_20 rfl 3 rfl ?_
              refine g_aload_n (pc := 21) hX dX3_row_21 rfl 0 rfl ?_
              refine g_get (pc := 22) (C := RX3) (T := TX3) (N := 11) (ci := 3) (v := .ref (am 3)) hX inX3_row_X3 0 rfl rfl 3 (by decide) flX3_row_19 rfl rfl dX3_row_22 ?_
              refine g_iconst (pc := 25) (v := (nI 4)) hX dX3_row_25 (by decide) ?_
              refine g_iload_n (pc := 26) hX dX3_row_26 rfl 1 rfl ?_
              refine g_imulN (pc := 27) (r := 4) hX dX3_row_27 (by first | rfl | omega) ?_
              refine g_iload_n (pc := 28) hX dX3_row_28 rfl 2 rfl ?_
              refine g_iaddN (pc := 29) (r := 4) hX dX3_row_29 (by first | rfl | omega) ?_
              refine g_iald (pc := 30) (v := (nI L.2.1.1.length)) hX 4 rfl (by omega) (by omega) (hM.2.2.2.1 4 (by omega)).1 dX3_row_30 ?_
              refine g_icmp_lt (pc := 31) (tgt := 36) hX dX3_row_31 (by decide) (fun c31 => ?_) (fun c31 => ?_)
              · obtain ⟨j, hj, rfl⟩ := nI_ex (n := L.2.1.1.length) (by omega) c17 (Int32.not_le.mpr c31)
                refine g_aload_n (pc := 36) hX dX3_row_36 rfl 0 rfl ?_
                refine g_get (pc := 37) (C := RX3) (T := TX3) (N := 11) (ci := 3) (v := .ref (am 4)) hX inX3_row_X3 0 rfl rfl 4 (by decide) flX3_row_22 rfl rfl dX3_row_37 ?_
                refine g_bipush (pc := 40) (v := (nI 20)) hX dX3_row_40 (by decide) ?_
                refine g_iconst (pc := 42) (v := (nI 4)) hX dX3_row_42 (by decide) ?_
                refine g_iload_n (pc := 43) hX dX3_row_43 rfl 1 rfl ?_
                refine g_imulN (pc := 44) (r := 4) hX dX3_row_44 (by first | rfl | omega) ?_
                refine g_iload_n (pc := 45) hX dX3_row_45 rfl 2 rfl ?_
                refine g_iaddN (pc := 46) (r := 4) hX dX3_row_46 (by first | rfl | omega) ?_
                refine g_imulN (pc := 47) (r := 80) hX dX3_row_47 (by first | rfl | omega) ?_
                refine g_iload_n (pc := 48) hX dX3_row_48 rfl 3 rfl ?_
                refine g_iaddN (pc := 49) (r := 80 + j) hX dX3_row_49 (by first | rfl | omega) ?_
                refine g_iald (pc := 50) (v := (nI (L.2.1.1.getD j 0))) hX 5 rfl (by omega) (by omega) ((hM.2.2.2.1 4 (by omega)).2.2.2 j hj) dX3_row_50 ?_
                exact hret (u := ()) dX3_row_51 (by unfold cRow cTier; rw [if_neg (by decide), if_pos rfl]; show _ = atI L.2.1.1 (nI j); unfold atI; rw [if_neg (nI_pos (by omega)), if_neg (nI_nle2 hj (by omega)), nI_clamp (by omega)]) rfl
              · refine g_iconst (pc := 34) (v := (-1)) hX dX3_row_34 (by decide) ?_
                exact hret (u := ()) dX3_row_35 (by unfold cRow cTier; rw [if_neg (by decide), if_pos rfl]; show _ = atI L.2.1.1 (i); unfold atI; rw [if_neg c17, if_pos (Int32.not_lt.mp c31)]) rfl
          · have hl20 : L.2.1.2.1.length ≤ 20 := (hM.2.2.2.1 5 (by omega)).2.1
            refine g_iload_n (pc := 16) hX dX3_row_16 rfl 3 rfl ?_
            refine g_if_lt (pc := 17) (tgt := 34) hX dX3_row_17 (by decide) (fun c17 => ?_) (fun c17 => ?_)
            · refine g_iconst (pc := 34) (v := (-1)) hX dX3_row_34 (by decide) ?_
              exact hret (u := ()) dX3_row_35 (by unfold cRow cTier; rw [if_neg (by decide), if_pos rfl]; show _ = atI L.2.1.2.1 (i); unfold atI; rw [if_pos c17]) rfl
            · refine g_iload_n (pc := 20) hX dX3_row_20 rfl 3 rfl ?_
              refine g_aload_n (pc := 21) hX dX3_row_21 rfl 0 rfl ?_
              refine g_get (pc := 22) (C := RX3) (T := TX3) (N := 11) (ci := 3) (v := .ref (am 3)) hX inX3_row_X3 0 rfl rfl 3 (by decide) flX3_row_19 rfl rfl dX3_row_22 ?_
              refine g_iconst (pc := 25) (v := (nI 4)) hX dX3_row_25 (by decide) ?_
              refine g_iload_n (pc := 26) hX dX3_row_26 rfl 1 rfl ?_
              refine g_imulN (pc := 27) (r := 4) hX dX3_row_27 (by first | rfl | omega) ?_
              refine g_iload_n (pc := 28) hX dX3_row_28 rfl 2 rfl ?_
              refine g_iaddN (pc := 29) (r := 5) hX dX3_row_29 (by first | rfl | omega) ?_
              refine g_iald (pc := 30) (v := (nI L.2.1.2.1.length)) hX 4 rfl (by omega) (by omega) (hM.2.2.2.1 5 (by omega)).1 dX3_row_30 ?_
              refine g_icmp_lt (pc := 31) (tgt := 36) hX dX3_row_31 (by decide) (fun c31 => ?_) (fun c31 => ?_)
              · obtain ⟨j, hj, rfl⟩ := nI_ex (n := L.2.1.2.1.length) (by omega) c17 (Int32.not_le.mpr c31)
                refine g_aload_n (pc := 36) hX dX3_row_36 rfl 0 rfl ?_
                refine g_get (pc := 37) (C := RX3) (T := TX3) (N := 11) (ci := 3) (v := .ref (am 4)) hX inX3_row_X3 0 rfl rfl 4 (by decide) flX3_row_22 rfl rfl dX3_row_37 ?_
                refine g_bipush (pc := 40) (v := (nI 20)) hX dX3_row_40 (by decide) ?_
                refine g_iconst (pc := 42) (v := (nI 4)) hX dX3_row_42 (by decide) ?_
                refine g_iload_n (pc := 43) hX dX3_row_43 rfl 1 rfl ?_
                refine g_imulN (pc := 44) (r := 4) hX dX3_row_44 (by first | rfl | omega) ?_
                refine g_iload_n (pc := 45) hX dX3_row_45 rfl 2 rfl ?_
                refine g_iaddN (pc := 46) (r := 5) hX dX3_row_46 (by first | rfl | omega) ?_
                refine g_imulN (pc := 47) (r := 100) hX dX3_row_47 (by first | rfl | omega) ?_
                refine g_iload_n (pc := 48) hX dX3_row_48 rfl 3 rfl ?_
                refine g_iaddN (pc := 49) (r := 100 + j) hX dX3_row_49 (by first | rfl | omega) ?_
                refine g_iald (pc := 50) (v := (nI (L.2.1.2.1.getD j 0))) hX 5 rfl (by omega) (by omega) ((hM.2.2.2.1 5 (by omega)).2.2.2 j hj) dX3_row_50 ?_
                exact hret (u := ()) dX3_row_51 (by unfold cRow cTier; rw [if_neg (by decide), if_pos rfl]; show _ = atI L.2.1.2.1 (nI j); unfold atI; rw [if_neg (nI_pos (by omega)), if_neg (nI_nle2 hj (by omega)), nI_clamp (by omega)]) rfl
              · refine g_iconst (pc := 34) (v := (-1)) hX dX3_row_34 (by decide) ?_
                exact hret (u := ()) dX3_row_35 (by unfold cRow cTier; rw [if_neg (by decide), if_pos rfl]; show _ = atI L.2.1.2.1 (i); unfold atI; rw [if_neg c17, if_pos (Int32.not_lt.mp c31)]) rfl
          · have hl20 : L.2.1.2.2.1.length ≤ 20 := (hM.2.2.2.1 6 (by omega)).2.1
            refine g_iload_n (pc := 16) hX dX3_row_16 rfl 3 rfl ?_
            refine g_if_lt (pc := 17) (tgt := 34) hX dX3_row_17 (by decide) (fun c17 => ?_) (fun c17 => ?_)
            · refine g_iconst (pc := 34) (v := (-1)) hX dX3_row_34 (by decide) ?_
              exact hret (u := ()) dX3_row_35 (by unfold cRow cTier; rw [if_neg (by decide), if_pos rfl]; show _ = atI L.2.1.2.2.1 (i); unfold atI; rw [if_pos c17]) rfl
            · refine g_iload_n (pc := 20) hX dX3_row_20 rfl 3 rfl ?_
              refine g_aload_n (pc := 21) hX dX3_row_21 rfl 0 rfl ?_
              refine g_get (pc := 22) (C := RX3) (T := TX3) (N := 11) (ci := 3) (v := .ref (am 3)) hX inX3_row_X3 0 rfl rfl 3 (by decide) flX3_row_19 rfl rfl dX3_row_22 ?_
              refine g_iconst (pc := 25) (v := (nI 4)) hX dX3_row_25 (by decide) ?_
              refine g_iload_n (pc := 26) hX dX3_row_26 rfl 1 rfl ?_
              refine g_imulN (pc := 27) (r := 4) hX dX3_row_27 (by first | rfl | omega) ?_
              refine g_iload_n (pc := 28) hX dX3_row_28 rfl 2 rfl ?_
              refine g_iaddN (pc := 29) (r := 6) hX dX3_row_29 (by first | rfl | omega) ?_
              refine g_iald (pc := 30) (v := (nI L.2.1.2.2.1.length)) hX 4 rfl (by omega) (by omega) (hM.2.2.2.1 6 (by omega)).1 dX3_row_30 ?_
              refine g_icmp_lt (pc := 31) (tgt := 36) hX dX3_row_31 (by decide) (fun c31 => ?_) (fun c31 => ?_)
              · obtain ⟨j, hj, rfl⟩ := nI_ex (n := L.2.1.2.2.1.length) (by omega) c17 (Int32.not_le.mpr c31)
                refine g_aload_n (pc := 36) hX dX3_row_36 rfl 0 rfl ?_
                refine g_get (pc := 37) (C := RX3) (T := TX3) (N := 11) (ci := 3) (v := .ref (am 4)) hX inX3_row_X3 0 rfl rfl 4 (by decide) flX3_row_22 rfl rfl dX3_row_37 ?_
                refine g_bipush (pc := 40) (v := (nI 20)) hX dX3_row_40 (by decide) ?_
                refine g_iconst (pc := 42) (v := (nI 4)) hX dX3_row_42 (by decide) ?_
                refine g_iload_n (pc := 43) hX dX3_row_43 rfl 1 rfl ?_
                refine g_imulN (pc := 44) (r := 4) hX dX3_row_44 (by first | rfl | omega) ?_
                refine g_iload_n (pc := 45) hX dX3_row_45 rfl 2 rfl ?_
                refine g_iaddN (pc := 46) (r := 6) hX dX3_row_46 (by first | rfl | omega) ?_
                refine g_imulN (pc := 47) (r := 120) hX dX3_row_47 (by first | rfl | omega) ?_
                refine g_iload_n (pc := 48) hX dX3_row_48 rfl 3 rfl ?_
                refine g_iaddN (pc := 49) (r := 120 + j) hX dX3_row_49 (by first | rfl | omega) ?_
                refine g_iald (pc := 50) (v := (nI (L.2.1.2.2.1.getD j 0))) hX 5 rfl (by omega) (by omega) ((hM.2.2.2.1 6 (by omega)).2.2.2 j hj) dX3_row_50 ?_
                exact hret (u := ()) dX3_row_51 (by unfold cRow cTier; rw [if_neg (by decide), if_pos rfl]; show _ = atI L.2.1.2.2.1 (nI j); unfold atI; rw [if_neg (nI_pos (by omega)), if_neg (nI_nle2 hj (by omega)), nI_clamp (by omega)]) rfl
              · refine g_iconst (pc := 34) (v := (-1)) hX dX3_row_34 (by decide) ?_
                exact hret (u := ()) dX3_row_35 (by unfold cRow cTier; rw [if_neg (by decide), if_pos rfl]; show _ = atI L.2.1.2.2.1 (i); unfold atI; rw [if_neg c17, if_pos (Int32.not_lt.mp c31)]) rfl
          · have hl20 : L.2.1.2.2.2.length ≤ 20 := (hM.2.2.2.1 7 (by omega)).2.1
            refine g_iload_n (pc := 16) hX dX3_row_16 rfl 3 rfl ?_
            refine g_if_lt (pc := 17) (tgt := 34) hX dX3_row_17 (by decide) (fun c17 => ?_) (fun c17 => ?_)
            · refine g_iconst (pc := 34) (v := (-1)) hX dX3_row_34 (by decide) ?_
              exact hret (u := ()) dX3_row_35 (by unfold cRow cTier; rw [if_neg (by decide), if_pos rfl]; show _ = atI L.2.1.2.2.2 (i); unfold atI; rw [if_pos c17]) rfl
            · refine g_iload_n (pc := 20) hX dX3_row_20 rfl 3 rfl ?_
              refine g_aload_n (pc := 21) hX dX3_row_21 rfl 0 rfl ?_
              refine g_get (pc := 22) (C := RX3) (T := TX3) (N := 11) (ci := 3) (v := .ref (am 3)) hX inX3_row_X3 0 rfl rfl 3 (by decide) flX3_row_19 rfl rfl dX3_row_22 ?_
              refine g_iconst (pc := 25) (v := (nI 4)) hX dX3_row_25 (by decide) ?_
              refine g_iload_n (pc := 26) hX dX3_row_26 rfl 1 rfl ?_
              refine g_imulN (pc := 27) (r := 4) hX dX3_row_27 (by first | rfl | omega) ?_
              refine g_iload_n (pc := 28) hX dX3_row_28 rfl 2 rfl ?_
              refine g_iaddN (pc := 29) (r := 7) hX dX3_row_29 (by first | rfl | omega) ?_
              refine g_iald (pc := 30) (v := (nI L.2.1.2.2.2.length)) hX 4 rfl (by omega) (by omega) (hM.2.2.2.1 7 (by omega)).1 dX3_row_30 ?_
              refine g_icmp_lt (pc := 31) (tgt := 36) hX dX3_row_31 (by decide) (fun c31 => ?_) (fun c31 => ?_)
              · obtain ⟨j, hj, rfl⟩ := nI_ex (n := L.2.1.2.2.2.length) (by omega) c17 (Int32.not_le.mpr c31)
                refine g_aload_n (pc := 36) hX dX3_row_36 rfl 0 rfl ?_
                refine g_get (pc := 37) (C := RX3) (T := TX3) (N := 11) (ci := 3) (v := .ref (am 4)) hX inX3_row_X3 0 rfl rfl 4 (by decide) flX3_row_22 rfl rfl dX3_row_37 ?_
                refine g_bipush (pc := 40) (v := (nI 20)) hX dX3_row_40 (by decide) ?_
                refine g_iconst (pc := 42) (v := (nI 4)) hX dX3_row_42 (by decide) ?_
                refine g_iload_n (pc := 43) hX dX3_row_43 rfl 1 rfl ?_
                refine g_imulN (pc := 44) (r := 4) hX dX3_row_44 (by first | rfl | omega) ?_
                refine g_iload_n (pc := 45) hX dX3_row_45 rfl 2 rfl ?_
                refine g_iaddN (pc := 46) (r := 7) hX dX3_row_46 (by first | rfl | omega) ?_
                refine g_imulN (pc := 47) (r := 140) hX dX3_row_47 (by first | rfl | omega) ?_
                refine g_iload_n (pc := 48) hX dX3_row_48 rfl 3 rfl ?_
                refine g_iaddN (pc := 49) (r := 140 + j) hX dX3_row_49 (by first | rfl | omega) ?_
                refine g_iald (pc := 50) (v := (nI (L.2.1.2.2.2.getD j 0))) hX 5 rfl (by omega) (by omega) ((hM.2.2.2.1 7 (by omega)).2.2.2 j hj) dX3_row_50 ?_
                exact hret (u := ()) dX3_row_51 (by unfold cRow cTier; rw [if_neg (by decide), if_pos rfl]; show _ = atI L.2.1.2.2.2 (nI j); unfold atI; rw [if_neg (nI_pos (by omega)), if_neg (nI_nle2 hj (by omega)), nI_clamp (by omega)]) rfl
              · refine g_iconst (pc := 34) (v := (-1)) hX dX3_row_34 (by decide) ?_
                exact hret (u := ()) dX3_row_35 (by unfold cRow cTier; rw [if_neg (by decide), if_pos rfl]; show _ = atI L.2.1.2.2.2 (i); unfold atI; rw [if_neg c17, if_pos (Int32.not_lt.mp c31)]) rfl
