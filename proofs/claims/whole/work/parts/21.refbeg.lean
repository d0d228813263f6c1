/-! THE REFERENCE: begin, the constructor -/
abbrev rmX3_begin : Room := { frames := 0, cells := 0, slots := 0, locals := 0 }
theorem flX3_begin_7 : Cond.fieldLink RX3 7 "TwoTierCacheModel" "policies" "[I" ∈ wsX3_begin := by decide +kernel
theorem inX3_begin_X3 : ∀ w ∈ u_ws RX3 TX3 11, w ∈ wsX3_begin := by decide +kernel
theorem flX3_begin_13 : Cond.fieldLink RX3 13 "TwoTierCacheModel" "capacities" "[I" ∈ wsX3_begin := by decide +kernel
theorem flX3_begin_16 : Cond.fieldLink RX3 16 "TwoTierCacheModel" "goals" "[I" ∈ wsX3_begin := by decide +kernel
theorem flX3_begin_35 : Cond.fieldLink RX3 35 "TwoTierCacheModel" "reads" "I" ∈ wsX3_begin := by decide +kernel
theorem flX3_begin_39 : Cond.fieldLink RX3 39 "TwoTierCacheModel" "writes" "I" ∈ wsX3_begin := by decide +kernel
theorem flX3_begin_32 : Cond.fieldLink RX3 32 "TwoTierCacheModel" "counts" "[I" ∈ wsX3_begin := by decide +kernel
theorem flX3_begin_25 : Cond.fieldLink RX3 25 "TwoTierCacheModel" "marks" "[Z" ∈ wsX3_begin := by decide +kernel
theorem flX3_begin_29 : Cond.fieldLink RX3 29 "TwoTierCacheModel" "wet" "[Z" ∈ wsX3_begin := by decide +kernel
theorem flX3_begin_19 : Cond.fieldLink RX3 19 "TwoTierCacheModel" "lengths" "[I" ∈ wsX3_begin := by decide +kernel
set_option maxHeartbeats 4000000 in
set_option maxRecDepth 100000 in
/-- begin -/
theorem c_X3_begin (l : Launch) (K : gT) (m : Nat) (am : Nat → Nat) (po ca go le pg mk we co : Nat → Int32) (rd wr vi : Int32) (U L : TS) (hM : mR (sF U L) po ca go le pg mk we co) (iU : tInv U) (iL : tInv L) (x0 y0 x1 y1 : Int32) : Ci l yX3_begin wsX3_begin rmX3_begin K [.ref m, .int x0, .int y0, .int x1, .int y1] (mW K m am po ca go le pg mk we co rd wr vi) (fun (r : Int32) (u : (Nat → Int32) × (Nat → Int32) × (Nat → Int32) × (Nat → Int32) × (Nat → Int32) × (Nat → Int32) × (Nat → Int32) × (Nat → Int32)) => r = bI (cBegin (U, L, rd, wr) x0 y0 x1 y1).1 ∧ mR (sF (cBegin (U, L, rd, wr) x0 y0 x1 y1).2.1 (cBegin (U, L, rd, wr) x0 y0 x1 y1).2.2.1) u.1 u.2.1 u.2.2.1 u.2.2.2.1 u.2.2.2.2.1 u.2.2.2.2.2.1 u.2.2.2.2.2.2.1 u.2.2.2.2.2.2.2) (fun u => mW K m am u.1 u.2.1 u.2.2.1 u.2.2.2.1 u.2.2.2.2.1 u.2.2.2.2.2.1 u.2.2.2.2.2.2.1 u.2.2.2.2.2.2.2 ((cBegin (U, L, rd, wr) x0 y0 x1 y1).2.2.2.1) ((cBegin (U, L, rd, wr) x0 y0 x1 y1).2.2.2.2) vi) 0 0 := by
  refine m_z (cc := cX3_begin) (own := RX3) (maxL := 7) (lv0 := [(0, .ref m), (1, .int x0), (2, .int y0), (3, .int x1), (4, .int y1)]) (by decide) rfl rfl (Nat.le_of_ble_eq_true rfl) rfl ?_
  intro X hX hin hret
  refine g_ws (ws' := [(m, .inr (3, [.ref (am 0), .ref (am 1), .ref (am 2), .ref (am 3), .ref (am 4), .ref (am 5), .ref (am 6), .ref (am 7), .int rd, .int wr, .int vi])), (am 0, .inl (K.2.1, 2, .inl po)), (am 1, .inl (K.2.1, 2, .inl ca)), (am 2, .inl (K.2.1, 2, .inl go)), (am 3, .inl (K.2.1, 8, .inl le)), (am 4, .inl (K.2.1, 160, .inl pg)), (am 5, .inl (K.2.2.1, 128, .inl mk)), (am 6, .inl (K.2.2.1, 128, .inl we)), (am 7, .inl (K.2.1, 6, .inl co))]) rfl ?_
  refine g_iload_n (pc := 0) hX dX3_begin_0 rfl 1 rfl ?_
  refine g_if_lt (pc := 1) (tgt := 44) hX dX3_begin_1 (by decide) (fun c1 => ?_) (fun c1 => ?_)
  · refine g_iconst (pc := 44) (v := (nI 0)) hX dX3_begin_44 (by decide) ?_
    refine g_istore (pc := 45) (lv' := [(5, .int (nI 0)), (0, .ref m), (1, .int x0), (2, .int y0), (3, .int x1), (4, .int y1)]) hX dX3_begin_45 (by decide) rfl ?_
    refine g_iload (pc := 47) hX dX3_begin_47 0 rfl ?_
    refine g_ifN_ne (pc := 49) (tgt := 54) hX (by omega) dX3_begin_49 (by decide) (fun c49 => absurd c49 (by omega)) (fun c49 => ?_)
    refine g_iconst (pc := 52) (v := (nI 0)) hX dX3_begin_52 (by decide) ?_
    refine g_top (y := bI false) (by decide) ?_
    have e0 : cBegin (U, L, rd, wr) x0 y0 x1 y1 = (false, (U, L, rd, wr)) := by
      unfold cBegin
      refine if_neg (fun q => ?_)
      obtain ⟨j, k, h1, h2, h3, e1, e2⟩ := okPC_of q.1
      obtain ⟨j2, k2, h12, h22, h32, e12, e22⟩ := okPC_of q.2
      subst e1 e2 e12 e22
      exact absurd c1 (nI_pos (by omega))
    rw [e0] at hret
    exact hret (v := false) (u := (po, ca, go, le, pg, mk, we, co)) dX3_begin_53 (⟨rfl, hM⟩) rfl
  · refine g_iload_n (pc := 4) hX dX3_begin_4 rfl 1 rfl ?_
    refine g_iconst (pc := 5) (v := (nI 4)) hX dX3_begin_5 (by decide) ?_
    refine g_icmp_ge (pc := 6) (tgt := 44) hX dX3_begin_6 (by decide) (fun c6 => ?_) (fun c6 => ?_)
    · refine g_iconst (pc := 44) (v := (nI 0)) hX dX3_begin_44 (by decide) ?_
      refine g_istore (pc := 45) (lv' := [(5, .int (nI 0)), (0, .ref m), (1, .int x0), (2, .int y0), (3, .int x1), (4, .int y1)]) hX dX3_begin_45 (by decide) rfl ?_
      refine g_iload (pc := 47) hX dX3_begin_47 0 rfl ?_
      refine g_ifN_ne (pc := 49) (tgt := 54) hX (by omega) dX3_begin_49 (by decide) (fun c49 => absurd c49 (by omega)) (fun c49 => ?_)
      refine g_iconst (pc := 52) (v := (nI 0)) hX dX3_begin_52 (by decide) ?_
      refine g_top (y := bI false) (by decide) ?_
      have e0 : cBegin (U, L, rd, wr) x0 y0 x1 y1 = (false, (U, L, rd, wr)) := by
        unfold cBegin
        refine if_neg (fun q => ?_)
        obtain ⟨j, k, h1, h2, h3, e1, e2⟩ := okPC_of q.1
        obtain ⟨j2, k2, h12, h22, h32, e12, e22⟩ := okPC_of q.2
        subst e1 e2 e12 e22
        exact absurd c6 (fun z => absurd (gn_le (by omega) (by omega) z) (by omega))
      rw [e0] at hret
      exact hret (v := false) (u := (po, ca, go, le, pg, mk, we, co)) dX3_begin_53 (⟨rfl, hM⟩) rfl
    · refine g_iload_n (pc := 9) hX dX3_begin_9 rfl 3 rfl ?_
      refine g_if_lt (pc := 10) (tgt := 44) hX dX3_begin_10 (by decide) (fun c10 => ?_) (fun c10 => ?_)
      · refine g_iconst (pc := 44) (v := (nI 0)) hX dX3_begin_44 (by decide) ?_
        refine g_istore (pc := 45) (lv' := [(5, .int (nI 0)), (0, .ref m), (1, .int x0), (2, .int y0), (3, .int x1), (4, .int y1)]) hX dX3_begin_45 (by decide) rfl ?_
        refine g_iload (pc := 47) hX dX3_begin_47 0 rfl ?_
        refine g_ifN_ne (pc := 49) (tgt := 54) hX (by omega) dX3_begin_49 (by decide) (fun c49 => absurd c49 (by omega)) (fun c49 => ?_)
        refine g_iconst (pc := 52) (v := (nI 0)) hX dX3_begin_52 (by decide) ?_
        refine g_top (y := bI false) (by decide) ?_
        have e0 : cBegin (U, L, rd, wr) x0 y0 x1 y1 = (false, (U, L, rd, wr)) := by
          unfold cBegin
          refine if_neg (fun q => ?_)
          obtain ⟨j, k, h1, h2, h3, e1, e2⟩ := okPC_of q.1
          obtain ⟨j2, k2, h12, h22, h32, e12, e22⟩ := okPC_of q.2
          subst e1 e2 e12 e22
          exact absurd c10 (nI_pos (by omega))
        rw [e0] at hret
        exact hret (v := false) (u := (po, ca, go, le, pg, mk, we, co)) dX3_begin_53 (⟨rfl, hM⟩) rfl
      · refine g_iload_n (pc := 13) hX dX3_begin_13 rfl 3 rfl ?_
        refine g_iconst (pc := 14) (v := (nI 4)) hX dX3_begin_14 (by decide) ?_
        refine g_icmp_ge (pc := 15) (tgt := 44) hX dX3_begin_15 (by decide) (fun c15 => ?_) (fun c15 => ?_)
        · refine g_iconst (pc := 44) (v := (nI 0)) hX dX3_begin_44 (by decide) ?_
          refine g_istore (pc := 45) (lv' := [(5, .int (nI 0)), (0, .ref m), (1, .int x0), (2, .int y0), (3, .int x1), (4, .int y1)]) hX dX3_begin_45 (by decide) rfl ?_
          refine g_iload (pc := 47) hX dX3_begin_47 0 rfl ?_
          refine g_ifN_ne (pc := 49) (tgt := 54) hX (by omega) dX3_begin_49 (by decide) (fun c49 => absurd c49 (by omega)) (fun c49 => ?_)
          refine g_iconst (pc := 52) (v := (nI 0)) hX dX3_begin_52 (by decide) ?_
          refine g_top (y := bI false) (by decide) ?_
          have e0 : cBegin (U, L, rd, wr) x0 y0 x1 y1 = (false, (U, L, rd, wr)) := by
            unfold cBegin
            refine if_neg (fun q => ?_)
            obtain ⟨j, k, h1, h2, h3, e1, e2⟩ := okPC_of q.1
            obtain ⟨j2, k2, h12, h22, h32, e12, e22⟩ := okPC_of q.2
            subst e1 e2 e12 e22
            exact absurd c15 (fun z => absurd (gn_le (by omega) (by omega) z) (by omega))
          rw [e0] at hret
          exact hret (v := false) (u := (po, ca, go, le, pg, mk, we, co)) dX3_begin_53 (⟨rfl, hM⟩) rfl
        · refine g_iload_n (pc := 18) hX dX3_begin_18 rfl 2 rfl ?_
          refine g_if_le (pc := 19) (tgt := 44) hX dX3_begin_19 (by decide) (fun c19 => ?_) (fun c19 => ?_)
          · refine g_iconst (pc := 44) (v := (nI 0)) hX dX3_begin_44 (by decide) ?_
            refine g_istore (pc := 45) (lv' := [(5, .int (nI 0)), (0, .ref m), (1, .int x0), (2, .int y0), (3, .int x1), (4, .int y1)]) hX dX3_begin_45 (by decide) rfl ?_
            refine g_iload (pc := 47) hX dX3_begin_47 0 rfl ?_
            refine g_ifN_ne (pc := 49) (tgt := 54) hX (by omega) dX3_begin_49 (by decide) (fun c49 => absurd c49 (by omega)) (fun c49 => ?_)
            refine g_iconst (pc := 52) (v := (nI 0)) hX dX3_begin_52 (by decide) ?_
            refine g_top (y := bI false) (by decide) ?_
            have e0 : cBegin (U, L, rd, wr) x0 y0 x1 y1 = (false, (U, L, rd, wr)) := by
              unfold cBegin
              refine if_neg (fun q => ?_)
              obtain ⟨j, k, h1, h2, h3, e1, e2⟩ := okPC_of q.1
              obtain ⟨j2, k2, h12, h22, h32, e12, e22⟩ := okPC_of q.2
              subst e1 e2 e12 e22
              exact absurd c19 (nI_nle (by omega) (by omega))
            rw [e0] at hret
            exact hret (v := false) (u := (po, ca, go, le, pg, mk, we, co)) dX3_begin_53 (⟨rfl, hM⟩) rfl
          · refine g_iload_n (pc := 22) hX dX3_begin_22 rfl 2 rfl ?_
            refine g_bipush (pc := 23) (v := (nI 17)) hX dX3_begin_23 (by decide) ?_
            refine g_icmp_ge (pc := 25) (tgt := 44) hX dX3_begin_25 (by decide) (fun c25 => ?_) (fun c25 => ?_)
            · refine g_iconst (pc := 44) (v := (nI 0)) hX dX3_begin_44 (by decide) ?_
              refine g_istore (pc := 45) (lv' := [(5, .int (nI 0)), (0, .ref m), (1, .int x0), (2, .int y0), (3, .int x1), (4, .int y1)]) hX dX3_begin_45 (by decide) rfl ?_
              refine g_iload (pc := 47) hX dX3_begin_47 0 rfl ?_
              refine g_ifN_ne (pc := 49) (tgt := 54) hX (by omega) dX3_begin_49 (by decide) (fun c49 => absurd c49 (by omega)) (fun c49 => ?_)
              refine g_iconst (pc := 52) (v := (nI 0)) hX dX3_begin_52 (by decide) ?_
              refine g_top (y := bI false) (by decide) ?_
              have e0 : cBegin (U, L, rd, wr) x0 y0 x1 y1 = (false, (U, L, rd, wr)) := by
                unfold cBegin
                refine if_neg (fun q => ?_)
                obtain ⟨j, k, h1, h2, h3, e1, e2⟩ := okPC_of q.1
                obtain ⟨j2, k2, h12, h22, h32, e12, e22⟩ := okPC_of q.2
                subst e1 e2 e12 e22
                exact absurd c25 (fun z => absurd (gn_le (by omega) (by omega) z) (by omega))
              rw [e0] at hret
              exact hret (v := false) (u := (po, ca, go, le, pg, mk, we, co)) dX3_begin_53 (⟨rfl, hM⟩) rfl
            · refine g_iload (pc := 28) hX dX3_begin_28 4 rfl ?_
              refine g_if_le (pc := 30) (tgt := 44) hX dX3_begin_30 (by decide) (fun c30 => ?_) (fun c30 => ?_)
              · refine g_iconst (pc := 44) (v := (nI 0)) hX dX3_begin_44 (by decide) ?_
                refine g_istore (pc := 45) (lv' := [(5, .int (nI 0)), (0, .ref m), (1, .int x0), (2, .int y0), (3, .int x1), (4, .int y1)]) hX dX3_begin_45 (by decide) rfl ?_
                refine g_iload (pc := 47) hX dX3_begin_47 0 rfl ?_
                refine g_ifN_ne (pc := 49) (tgt := 54) hX (by omega) dX3_begin_49 (by decide) (fun c49 => absurd c49 (by omega)) (fun c49 => ?_)
                refine g_iconst (pc := 52) (v := (nI 0)) hX dX3_begin_52 (by decide) ?_
                refine g_top (y := bI false) (by decide) ?_
                have e0 : cBegin (U, L, rd, wr) x0 y0 x1 y1 = (false, (U, L, rd, wr)) := by
                  unfold cBegin
                  refine if_neg (fun q => ?_)
                  obtain ⟨j, k, h1, h2, h3, e1, e2⟩ := okPC_of q.1
                  obtain ⟨j2, k2, h12, h22, h32, e12, e22⟩ := okPC_of q.2
                  subst e1 e2 e12 e22
                  exact absurd c30 (nI_nle (by omega) (by omega))
                rw [e0] at hret
                exact hret (v := false) (u := (po, ca, go, le, pg, mk, we, co)) dX3_begin_53 (⟨rfl, hM⟩) rfl
              · refine g_iload (pc := 33) hX dX3_begin_33 4 rfl ?_
                refine g_bipush (pc := 35) (v := (nI 17)) hX dX3_begin_35 (by decide) ?_
                refine g_icmp_ge (pc := 37) (tgt := 44) hX dX3_begin_37 (by decide) (fun c37 => ?_) (fun c37 => ?_)
                · refine g_iconst (pc := 44) (v := (nI 0)) hX dX3_begin_44 (by decide) ?_
                  refine g_istore (pc := 45) (lv' := [(5, .int (nI 0)), (0, .ref m), (1, .int x0), (2, .int y0), (3, .int x1), (4, .int y1)]) hX dX3_begin_45 (by decide) rfl ?_
                  refine g_iload (pc := 47) hX dX3_begin_47 0 rfl ?_
                  refine g_ifN_ne (pc := 49) (tgt := 54) hX (by omega) dX3_begin_49 (by decide) (fun c49 => absurd c49 (by omega)) (fun c49 => ?_)
                  refine g_iconst (pc := 52) (v := (nI 0)) hX dX3_begin_52 (by decide) ?_
                  refine g_top (y := bI false) (by decide) ?_
                  have e0 : cBegin (U, L, rd, wr) x0 y0 x1 y1 = (false, (U, L, rd, wr)) := by
                    unfold cBegin
                    refine if_neg (fun q => ?_)
                    obtain ⟨j, k, h1, h2, h3, e1, e2⟩ := okPC_of q.1
                    obtain ⟨j2, k2, h12, h22, h32, e12, e22⟩ := okPC_of q.2
                    subst e1 e2 e12 e22
                    exact absurd c37 (fun z => absurd (gn_le (by omega) (by omega) z) (by omega))
                  rw [e0] at hret
                  exact hret (v := false) (u := (po, ca, go, le, pg, mk, we, co)) dX3_begin_53 (⟨rfl, hM⟩) rfl
                · obtain ⟨a0, ha0, rfl⟩ := nI_ex (n := 4) (by omega) c1 c6
                  obtain ⟨a1, ha1, rfl⟩ := nI_ex (n := 4) (by omega) c10 c15
                  obtain ⟨b0, hb0, hb01, rfl⟩ := nI_ex1 (n := 17) (by omega) c19 c25
                  obtain ⟨b1, hb1, hb11, rfl⟩ := nI_ex1 (n := 17) (by omega) c30 c37
                  have e0 : cBegin (U, L, rd, wr) (nI a0) (nI b0) (nI a1) (nI b1) = (true, (tNew a0 b0, tNew a1 b1, 0, 0)) := by
                    unfold cBegin
                    rw [if_pos ⟨okPC_nI ha0 hb0 (by omega), okPC_nI ha1 hb1 (by omega)⟩, nI_clamp (by omega), nI_clamp (by omega), nI_clamp (by omega), nI_clamp (by omega)]
                  rw [e0] at hret
                  refine g_iconst (pc := 40) (v := (nI 1)) hX dX3_begin_40 (by decide) ?_
                  refine g_goto (pc := 41) (tgt := 45) hX dX3_begin_41 (by decide) ?_
                  refine g_istore (pc := 45) (lv' := [(5, .int (nI 1)), (0, .ref m), (1, .int (nI a0)), (2, .int (nI b0)), (3, .int (nI a1)), (4, .int (nI b1))]) hX dX3_begin_45 (by decide) rfl ?_
                  refine g_iload (pc := 47) hX dX3_begin_47 0 rfl ?_
                  refine g_ifN_ne (pc := 49) (tgt := 54) hX (by omega) dX3_begin_49 (by decide) (fun c49 => ?_) (fun c49 => absurd c49 (by omega))
                  refine g_aload_n (pc := 54) hX dX3_begin_54 rfl 1 rfl ?_
                  refine g_get (pc := 55) (C := RX3) (T := TX3) (N := 11) (ci := 3) (v := .ref (am 0)) hX inX3_begin_X3 0 rfl rfl 0 (by decide) flX3_begin_7 rfl rfl dX3_begin_55 ?_
                  refine g_iconst (pc := 58) (v := (nI 0)) hX dX3_begin_58 (by decide) ?_
                  refine g_iload_n (pc := 59) hX dX3_begin_59 rfl 2 rfl ?_
                  refine g_iast (pc := 60) (ws' := [(m, .inr (3, [.ref (am 0), .ref (am 1), .ref (am 2), .ref (am 3), .ref (am 4), .ref (am 5), .ref (am 6), .ref (am 7), .int rd, .int wr, .int vi])), (am 0, .inl (K.2.1, 2, .inl (upd po 0 (nI a0)))), (am 1, .inl (K.2.1, 2, .inl ca)), (am 2, .inl (K.2.1, 2, .inl go)), (am 3, .inl (K.2.1, 8, .inl le)), (am 4, .inl (K.2.1, 160, .inl pg)), (am 5, .inl (K.2.2.1, 128, .inl mk)), (am 6, .inl (K.2.2.1, 128, .inl we)), (am 7, .inl (K.2.1, 6, .inl co))]) hX 1 rfl (by omega) (by omega) rfl dX3_begin_60 ?_
                  refine g_aload_n (pc := 61) hX dX3_begin_61 rfl 1 rfl ?_
                  refine g_get (pc := 62) (C := RX3) (T := TX3) (N := 11) (ci := 3) (v := .ref (am 0)) hX inX3_begin_X3 0 rfl rfl 0 (by decide) flX3_begin_7 rfl rfl dX3_begin_62 ?_
                  refine g_iconst (pc := 65) (v := (nI 1)) hX dX3_begin_65 (by decide) ?_
                  refine g_iload_n (pc := 66) hX dX3_begin_66 rfl 4 rfl ?_
                  refine g_iast (pc := 67) (ws' := [(m, .inr (3, [.ref (am 0), .ref (am 1), .ref (am 2), .ref (am 3), .ref (am 4), .ref (am 5), .ref (am 6), .ref (am 7), .int rd, .int wr, .int vi])), (am 0, .inl (K.2.1, 2, .inl (upd (upd po 0 (nI a0)) 1 (nI a1)))), (am 1, .inl (K.2.1, 2, .inl ca)), (am 2, .inl (K.2.1, 2, .inl go)), (am 3, .inl (K.2.1, 8, .inl le)), (am 4, .inl (K.2.1, 160, .inl pg)), (am 5, .inl (K.2.2.1, 128, .inl mk)), (am 6, .inl (K.2.2.1, 128, .inl we)), (am 7, .inl (K.2.1, 6, .inl co))]) hX 1 rfl (by omega) (by omega) rfl dX3_begin_67 ?_
                  refine g_aload_n (pc := 68) hX dX3_begin_68 rfl 1 rfl ?_
                  refine g_get (pc := 69) (C := RX3) (T := TX3) (N := 11) (ci := 3) (v := .ref (am 1)) hX inX3_begin_X3 0 rfl rfl 1 (by decide) flX3_begin_13 rfl rfl dX3_begin_69 ?_
                  refine g_iconst (pc := 72) (v := (nI 0)) hX dX3_begin_72 (by decide) ?_
                  refine g_iload_n (pc := 73) hX dX3_begin_73 rfl 3 rfl ?_
                  refine g_iast (pc := 74) (ws' := [(m, .inr (3, [.ref (am 0), .ref (am 1), .ref (am 2), .ref (am 3), .ref (am 4), .ref (am 5), .ref (am 6), .ref (am 7), .int rd, .int wr, .int vi])), (am 0, .inl (K.2.1, 2, .inl (upd (upd po 0 (nI a0)) 1 (nI a1)))), (am 1, .inl (K.2.1, 2, .inl (upd ca 0 (nI b0)))), (am 2, .inl (K.2.1, 2, .inl go)), (am 3, .inl (K.2.1, 8, .inl le)), (am 4, .inl (K.2.1, 160, .inl pg)), (am 5, .inl (K.2.2.1, 128, .inl mk)), (am 6, .inl (K.2.2.1, 128, .inl we)), (am 7, .inl (K.2.1, 6, .inl co))]) hX 2 rfl (by omega) (by omega) rfl dX3_begin_74 ?_
                  refine g_aload_n (pc := 75) hX dX3_begin_75 rfl 1 rfl ?_
                  refine g_get (pc := 76) (C := RX3) (T := TX3) (N := 11) (ci := 3) (v := .ref (am 1)) hX inX3_begin_X3 0 rfl rfl 1 (by decide) flX3_begin_13 rfl rfl dX3_begin_76 ?_
                  refine g_iconst (pc := 79) (v := (nI 1)) hX dX3_begin_79 (by decide) ?_
                  refine g_iload (pc := 80) hX dX3_begin_80 5 rfl ?_
                  refine g_iast (pc := 82) (ws' := [(m, .inr (3, [.ref (am 0), .ref (am 1), .ref (am 2), .ref (am 3), .ref (am 4), .ref (am 5), .ref (am 6), .ref (am 7), .int rd, .int wr, .int vi])), (am 0, .inl (K.2.1, 2, .inl (upd (upd po 0 (nI a0)) 1 (nI a1)))), (am 1, .inl (K.2.1, 2, .inl (upd (upd ca 0 (nI b0)) 1 (nI b1)))), (am 2, .inl (K.2.1, 2, .inl go)), (am 3, .inl (K.2.1, 8, .inl le)), (am 4, .inl (K.2.1, 160, .inl pg)), (am 5, .inl (K.2.2.1, 128, .inl mk)), (am 6, .inl (K.2.2.1, 128, .inl we)), (am 7, .inl (K.2.1, 6, .inl co))]) hX 2 rfl (by omega) (by omega) rfl dX3_begin_82 ?_
                  have loopC : ∀ (z i : Nat) (le2 mk2 we2 co2 : Nat → Int32), 6 - i < z → i ≤ 6 → (∀ q, q < 8 → le2 q = nI 0) → (∀ q, q < 128 → mk2 q = nI 0) → (∀ q, q < 128 → we2 q = nI 0) → (∀ q, q < i → co2 q = nI 0) → VG X l rmX3_begin K 7 0 0 [(m, .inr (3, [.ref (am 0), .ref (am 1), .ref (am 2), .ref (am 3), .ref (am 4), .ref (am 5), .ref (am 6), .ref (am 7), .int rd, .int wr, .int vi])), (am 0, .inl (K.2.1, 2, .inl (upd (upd po 0 (nI a0)) 1 (nI a1)))), (am 1, .inl (K.2.1, 2, .inl (upd (upd ca 0 (nI b0)) 1 (nI b1)))), (am 2, .inl (K.2.1, 2, .inl go)), (am 3, .inl (K.2.1, 8, .inl le2)), (am 4, .inl (K.2.1, 160, .inl pg)), (am 5, .inl (K.2.2.1, 128, .inl mk2)), (am 6, .inl (K.2.2.1, 128, .inl we2)), (am 7, .inl (K.2.1, 6, .inl co2))] [(6, .int (nI i)), (0, .ref m), (1, .int (nI a0)), (2, .int (nI b0)), (3, .int (nI a1)), (4, .int (nI b1)), (5, .int (nI 1))] [] 143 := by
                    intro z
                    induction z with
                    | zero => intro i le2 mk2 we2 co2 h1; exact absurd h1 (Nat.not_lt_zero _)
                    | succ z ih =>
                      intro i le2 mk2 we2 co2 h1 h2 fle fmk fwe fco
                      refine g_iload (pc := 143) hX dX3_begin_143 0 rfl ?_
                      refine g_bipush (pc := 145) (v := (nI 6)) hX dX3_begin_145 (by decide) ?_
                      refine g_icmpN_ge (pc := 147) (tgt := 164) hX (by omega) (by omega) dX3_begin_147 (by decide) (fun c147 => ?_) (fun c147 => ?_)
                      · refine g_aload_n (pc := 164) hX dX3_begin_164 rfl 1 rfl ?_
                        refine g_get (pc := 165) (C := RX3) (T := TX3) (N := 11) (ci := 3) (v := .ref (am 2)) hX inX3_begin_X3 0 rfl rfl 2 (by decide) flX3_begin_16 rfl rfl dX3_begin_165 ?_
                        refine g_iconst (pc := 168) (v := (nI 0)) hX dX3_begin_168 (by decide) ?_
                        refine g_iconst (pc := 169) (v := (nI 0)) hX dX3_begin_169 (by decide) ?_
                        refine g_iast (pc := 170) (ws' := [(m, .inr (3, [.ref (am 0), .ref (am 1), .ref (am 2), .ref (am 3), .ref (am 4), .ref (am 5), .ref (am 6), .ref (am 7), .int rd, .int wr, .int vi])), (am 0, .inl (K.2.1, 2, .inl (upd (upd po 0 (nI a0)) 1 (nI a1)))), (am 1, .inl (K.2.1, 2, .inl (upd (upd ca 0 (nI b0)) 1 (nI b1)))), (am 2, .inl (K.2.1, 2, .inl (upd go 0 (nI 0)))), (am 3, .inl (K.2.1, 8, .inl le2)), (am 4, .inl (K.2.1, 160, .inl pg)), (am 5, .inl (K.2.2.1, 128, .inl mk2)), (am 6, .inl (K.2.2.1, 128, .inl we2)), (am 7, .inl (K.2.1, 6, .inl co2))]) hX 3 rfl (by omega) (by omega) rfl dX3_begin_170 ?_
                        refine g_aload_n (pc := 171) hX dX3_begin_171 rfl 1 rfl ?_
                        refine g_get (pc := 172) (C := RX3) (T := TX3) (N := 11) (ci := 3) (v := .ref (am 2)) hX inX3_begin_X3 0 rfl rfl 2 (by decide) flX3_begin_16 rfl rfl dX3_begin_172 ?_
                        refine g_iconst (pc := 175) (v := (nI 1)) hX dX3_begin_175 (by decide) ?_
                        refine g_iconst (pc := 176) (v := (nI 0)) hX dX3_begin_176 (by decide) ?_
                        refine g_iast (pc := 177) (ws' := [(m, .inr (3, [.ref (am 0), .ref (am 1), .ref (am 2), .ref (am 3), .ref (am 4), .ref (am 5), .ref (am 6), .ref (am 7), .int rd, .int wr, .int vi])), (am 0, .inl (K.2.1, 2, .inl (upd (upd po 0 (nI a0)) 1 (nI a1)))), (am 1, .inl (K.2.1, 2, .inl (upd (upd ca 0 (nI b0)) 1 (nI b1)))), (am 2, .inl (K.2.1, 2, .inl (upd (upd go 0 (nI 0)) 1 (nI 0)))), (am 3, .inl (K.2.1, 8, .inl le2)), (am 4, .inl (K.2.1, 160, .inl pg)), (am 5, .inl (K.2.2.1, 128, .inl mk2)), (am 6, .inl (K.2.2.1, 128, .inl we2)), (am 7, .inl (K.2.1, 6, .inl co2))]) hX 3 rfl (by omega) (by omega) rfl dX3_begin_177 ?_
                        refine g_aload_n (pc := 178) hX dX3_begin_178 rfl 1 rfl ?_
                        refine g_iconst (pc := 179) (v := (nI 0)) hX dX3_begin_179 (by decide) ?_
                        refine g_put (pc := 180) (C := RX3) (T := TX3) (N := 11) (ci := 3) (v := .int (nI 0)) (ws' := [(m, .inr (3, [.ref (am 0), .ref (am 1), .ref (am 2), .ref (am 3), .ref (am 4), .ref (am 5), .ref (am 6), .ref (am 7), .int (nI 0), .int wr, .int vi])), (am 0, .inl (K.2.1, 2, .inl (upd (upd po 0 (nI a0)) 1 (nI a1)))), (am 1, .inl (K.2.1, 2, .inl (upd (upd ca 0 (nI b0)) 1 (nI b1)))), (am 2, .inl (K.2.1, 2, .inl (upd (upd go 0 (nI 0)) 1 (nI 0)))), (am 3, .inl (K.2.1, 8, .inl le2)), (am 4, .inl (K.2.1, 160, .inl pg)), (am 5, .inl (K.2.2.1, 128, .inl mk2)), (am 6, .inl (K.2.2.1, 128, .inl we2)), (am 7, .inl (K.2.1, 6, .inl co2))]) hX inX3_begin_X3 tyX3 tyX3_ok nmX3 0 rfl rfl 8 (by decide) flX3_begin_35 rfl rfl rfl rfl (Nat.le_of_ble_eq_true rfl) rfl dX3_begin_180 ?_
                        refine g_aload_n (pc := 183) hX dX3_begin_183 rfl 1 rfl ?_
                        refine g_iconst (pc := 184) (v := (nI 0)) hX dX3_begin_184 (by decide) ?_
                        refine g_put (pc := 185) (C := RX3) (T := TX3) (N := 11) (ci := 3) (v := .int (nI 0)) (ws' := [(m, .inr (3, [.ref (am 0), .ref (am 1), .ref (am 2), .ref (am 3), .ref (am 4), .ref (am 5), .ref (am 6), .ref (am 7), .int (nI 0), .int (nI 0), .int vi])), (am 0, .inl (K.2.1, 2, .inl (upd (upd po 0 (nI a0)) 1 (nI a1)))), (am 1, .inl (K.2.1, 2, .inl (upd (upd ca 0 (nI b0)) 1 (nI b1)))), (am 2, .inl (K.2.1, 2, .inl (upd (upd go 0 (nI 0)) 1 (nI 0)))), (am 3, .inl (K.2.1, 8, .inl le2)), (am 4, .inl (K.2.1, 160, .inl pg)), (am 5, .inl (K.2.2.1, 128, .inl mk2)), (am 6, .inl (K.2.2.1, 128, .inl we2)), (am 7, .inl (K.2.1, 6, .inl co2))]) hX inX3_begin_X3 tyX3 tyX3_ok nmX3 0 rfl rfl 9 (by decide) flX3_begin_39 rfl rfl rfl rfl (Nat.le_of_ble_eq_true rfl) rfl dX3_begin_185 ?_
                        refine g_iconst (pc := 188) (v := (nI 1)) hX dX3_begin_188 (by decide) ?_
                        refine g_top (y := bI true) (by decide) ?_
                        exact hret (v := true) (u := (upd (upd po 0 (nI a0)) 1 (nI a1), upd (upd ca 0 (nI b0)) 1 (nI b1), upd (upd go 0 (nI 0)) 1 (nI 0), le2, pg, mk2, we2, co2)) dX3_begin_189 (⟨rfl, mR_new ⟨rfl, rfl⟩ ⟨rfl, rfl⟩ ⟨rfl, rfl⟩ fle (fun q hq => fmk q (by omega)) (fun q hq => fwe q (by omega)) (fun q hq => fco q (by omega))⟩) rfl
                      · refine g_aload_n (pc := 150) hX dX3_begin_150 rfl 1 rfl ?_
                        refine g_get (pc := 151) (C := RX3) (T := TX3) (N := 11) (ci := 3) (v := .ref (am 7)) hX inX3_begin_X3 0 rfl rfl 7 (by decide) flX3_begin_32 rfl rfl dX3_begin_151 ?_
                        refine g_iload (pc := 154) hX dX3_begin_154 0 rfl ?_
                        refine g_iconst (pc := 156) (v := (nI 0)) hX dX3_begin_156 (by decide) ?_
                        refine g_iast (pc := 157) (ws' := [(m, .inr (3, [.ref (am 0), .ref (am 1), .ref (am 2), .ref (am 3), .ref (am 4), .ref (am 5), .ref (am 6), .ref (am 7), .int rd, .int wr, .int vi])), (am 0, .inl (K.2.1, 2, .inl (upd (upd po 0 (nI a0)) 1 (nI a1)))), (am 1, .inl (K.2.1, 2, .inl (upd (upd ca 0 (nI b0)) 1 (nI b1)))), (am 2, .inl (K.2.1, 2, .inl go)), (am 3, .inl (K.2.1, 8, .inl le2)), (am 4, .inl (K.2.1, 160, .inl pg)), (am 5, .inl (K.2.2.1, 128, .inl mk2)), (am 6, .inl (K.2.2.1, 128, .inl we2)), (am 7, .inl (K.2.1, 6, .inl (upd co2 i (nI 0))))]) hX 8 rfl (by omega) (by omega) rfl dX3_begin_157 ?_
                        refine g_iinc (pc := 158) (z := 0) (v := (nI (i + 1))) (lv' := [(6, .int (nI (i + 1))), (0, .ref m), (1, .int (nI a0)), (2, .int (nI b0)), (3, .int (nI a1)), (4, .int (nI b1)), (5, .int (nI 1))]) hX dX3_begin_158 rfl (by first | exact nI_add _ _ | rfl) (by decide) rfl ?_
                        refine g_goto (pc := 161) (tgt := 143) hX dX3_begin_161 (by decide) ?_
                        refine g_sub [0, 1, 2, 3, 4, 5, 6] (lv' := [(6, .int (nI (i + 1))), (0, .ref m), (1, .int (nI a0)), (2, .int (nI b0)), (3, .int (nI a1)), (4, .int (nI b1)), (5, .int (nI 1))]) rfl ?_
                        refine ih (i + 1) le2 mk2 we2 (upd co2 i (nI 0)) (by omega) (by omega) fle fmk fwe ?_
                        · intro q hq
                          by_cases e : q = i
                          · rw [e, pk_us]
                          · rw [pk_un e]; exact fco q (by omega)
                  have loopB : ∀ (z i : Nat) (le2 mk2 we2 : Nat → Int32), 128 - i < z → i ≤ 128 → (∀ q, q < 8 → le2 q = nI 0) → (∀ q, q < i → mk2 q = nI 0) → (∀ q, q < i → we2 q = nI 0) → VG X l rmX3_begin K 7 0 0 [(m, .inr (3, [.ref (am 0), .ref (am 1), .ref (am 2), .ref (am 3), .ref (am 4), .ref (am 5), .ref (am 6), .ref (am 7), .int rd, .int wr, .int vi])), (am 0, .inl (K.2.1, 2, .inl (upd (upd po 0 (nI a0)) 1 (nI a1)))), (am 1, .inl (K.2.1, 2, .inl (upd (upd ca 0 (nI b0)) 1 (nI b1)))), (am 2, .inl (K.2.1, 2, .inl go)), (am 3, .inl (K.2.1, 8, .inl le2)), (am 4, .inl (K.2.1, 160, .inl pg)), (am 5, .inl (K.2.2.1, 128, .inl mk2)), (am 6, .inl (K.2.2.1, 128, .inl we2)), (am 7, .inl (K.2.1, 6, .inl co))] [(6, .int (nI i)), (0, .ref m), (1, .int (nI a0)), (2, .int (nI b0)), (3, .int (nI a1)), (4, .int (nI b1)), (5, .int (nI 1))] [] 110 := by
                    intro z
                    induction z with
                    | zero => intro i le2 mk2 we2 h1; exact absurd h1 (Nat.not_lt_zero _)
                    | succ z ih =>
                      intro i le2 mk2 we2 h1 h2 fle fmk fwe
                      refine g_iload (pc := 110) hX dX3_begin_110 0 rfl ?_
                      refine g_sipush (pc := 112) (v := (nI 128)) hX dX3_begin_112 (by decide) ?_
                      refine g_icmpN_ge (pc := 115) (tgt := 140) hX (by omega) (by omega) dX3_begin_115 (by decide) (fun c115 => ?_) (fun c115 => ?_)
                      · refine g_iconst (pc := 140) (v := (nI 0)) hX dX3_begin_140 (by decide) ?_
                        refine g_istore (pc := 141) (lv' := [(6, .int (nI 0)), (0, .ref m), (1, .int (nI a0)), (2, .int (nI b0)), (3, .int (nI a1)), (4, .int (nI b1)), (5, .int (nI 1))]) hX dX3_begin_141 (by decide) rfl ?_
                        refine g_sub [0, 1, 2, 3, 4, 5, 6] (lv' := [(6, .int (nI 0)), (0, .ref m), (1, .int (nI a0)), (2, .int (nI b0)), (3, .int (nI a1)), (4, .int (nI b1)), (5, .int (nI 1))]) rfl ?_
                        exact loopC 7 0 le2 mk2 we2 co (by omega) (by omega) (fun q hq => fle q (by omega)) (fun q hq => fmk q (by omega)) (fun q hq => fwe q (by omega)) (fun q hq => absurd hq (Nat.not_lt_zero _))
                      · refine g_aload_n (pc := 118) hX dX3_begin_118 rfl 1 rfl ?_
                        refine g_get (pc := 119) (C := RX3) (T := TX3) (N := 11) (ci := 3) (v := .ref (am 5)) hX inX3_begin_X3 0 rfl rfl 5 (by decide) flX3_begin_25 rfl rfl dX3_begin_119 ?_
                        refine g_iload (pc := 122) hX dX3_begin_122 0 rfl ?_
                        refine g_iconst (pc := 124) (v := (nI 0)) hX dX3_begin_124 (by decide) ?_
                        refine g_zast (pc := 125) (ws' := [(m, .inr (3, [.ref (am 0), .ref (am 1), .ref (am 2), .ref (am 3), .ref (am 4), .ref (am 5), .ref (am 6), .ref (am 7), .int rd, .int wr, .int vi])), (am 0, .inl (K.2.1, 2, .inl (upd (upd po 0 (nI a0)) 1 (nI a1)))), (am 1, .inl (K.2.1, 2, .inl (upd (upd ca 0 (nI b0)) 1 (nI b1)))), (am 2, .inl (K.2.1, 2, .inl go)), (am 3, .inl (K.2.1, 8, .inl le2)), (am 4, .inl (K.2.1, 160, .inl pg)), (am 5, .inl (K.2.2.1, 128, .inl (upd mk2 i (nI 0)))), (am 6, .inl (K.2.2.1, 128, .inl we2)), (am 7, .inl (K.2.1, 6, .inl co))]) hX 6 rfl (by omega) (by omega) (by decide) rfl dX3_begin_125 ?_
                        refine g_aload_n (pc := 126) hX dX3_begin_126 rfl 1 rfl ?_
                        refine g_get (pc := 127) (C := RX3) (T := TX3) (N := 11) (ci := 3) (v := .ref (am 6)) hX inX3_begin_X3 0 rfl rfl 6 (by decide) flX3_begin_29 rfl rfl dX3_begin_127 ?_
                        refine g_iload (pc := 130) hX dX3_begin_130 0 rfl ?_
                        refine g_iconst (pc := 132) (v := (nI 0)) hX dX3_begin_132 (by decide) ?_
                        refine g_zast (pc := 133) (ws' := [(m, .inr (3, [.ref (am 0), .ref (am 1), .ref (am 2), .ref (am 3), .ref (am 4), .ref (am 5), .ref (am 6), .ref (am 7), .int rd, .int wr, .int vi])), (am 0, .inl (K.2.1, 2, .inl (upd (upd po 0 (nI a0)) 1 (nI a1)))), (am 1, .inl (K.2.1, 2, .inl (upd (upd ca 0 (nI b0)) 1 (nI b1)))), (am 2, .inl (K.2.1, 2, .inl go)), (am 3, .inl (K.2.1, 8, .inl le2)), (am 4, .inl (K.2.1, 160, .inl pg)), (am 5, .inl (K.2.2.1, 128, .inl (upd mk2 i (nI 0)))), (am 6, .inl (K.2.2.1, 128, .inl (upd we2 i (nI 0)))), (am 7, .inl (K.2.1, 6, .inl co))]) hX 7 rfl (by omega) (by omega) (by decide) rfl dX3_begin_133 ?_
                        refine g_iinc (pc := 134) (z := 0) (v := (nI (i + 1))) (lv' := [(6, .int (nI (i + 1))), (0, .ref m), (1, .int (nI a0)), (2, .int (nI b0)), (3, .int (nI a1)), (4, .int (nI b1)), (5, .int (nI 1))]) hX dX3_begin_134 rfl (by first | exact nI_add _ _ | rfl) (by decide) rfl ?_
                        refine g_goto (pc := 137) (tgt := 110) hX dX3_begin_137 (by decide) ?_
                        refine g_sub [0, 1, 2, 3, 4, 5, 6] (lv' := [(6, .int (nI (i + 1))), (0, .ref m), (1, .int (nI a0)), (2, .int (nI b0)), (3, .int (nI a1)), (4, .int (nI b1)), (5, .int (nI 1))]) rfl ?_
                        refine ih (i + 1) le2 (upd mk2 i (nI 0)) (upd we2 i (nI 0)) (by omega) (by omega) fle ?_ ?_
                        · intro q hq
                          by_cases e : q = i
                          · rw [e, pk_us]
                          · rw [pk_un e]; exact fmk q (by omega)
                        · intro q hq
                          by_cases e : q = i
                          · rw [e, pk_us]
                          · rw [pk_un e]; exact fwe q (by omega)
                  have loopA : ∀ (z i : Nat) (le2 : Nat → Int32), 8 - i < z → i ≤ 8 → (∀ q, q < i → le2 q = nI 0) → VG X l rmX3_begin K 7 0 0 [(m, .inr (3, [.ref (am 0), .ref (am 1), .ref (am 2), .ref (am 3), .ref (am 4), .ref (am 5), .ref (am 6), .ref (am 7), .int rd, .int wr, .int vi])), (am 0, .inl (K.2.1, 2, .inl (upd (upd po 0 (nI a0)) 1 (nI a1)))), (am 1, .inl (K.2.1, 2, .inl (upd (upd ca 0 (nI b0)) 1 (nI b1)))), (am 2, .inl (K.2.1, 2, .inl go)), (am 3, .inl (K.2.1, 8, .inl le2)), (am 4, .inl (K.2.1, 160, .inl pg)), (am 5, .inl (K.2.2.1, 128, .inl mk)), (am 6, .inl (K.2.2.1, 128, .inl we)), (am 7, .inl (K.2.1, 6, .inl co))] [(6, .int (nI i)), (0, .ref m), (1, .int (nI a0)), (2, .int (nI b0)), (3, .int (nI a1)), (4, .int (nI b1)), (5, .int (nI 1))] [] 86 := by
                    intro z
                    induction z with
                    | zero => intro i le2 h1; exact absurd h1 (Nat.not_lt_zero _)
                    | succ z ih =>
                      intro i le2 h1 h2 fle
                      refine g_iload (pc := 86) hX dX3_begin_86 0 rfl ?_
                      refine g_bipush (pc := 88) (v := (nI 8)) hX dX3_begin_88 (by decide) ?_
                      refine g_icmpN_ge (pc := 90) (tgt := 107) hX (by omega) (by omega) dX3_begin_90 (by decide) (fun c90 => ?_) (fun c90 => ?_)
                      · refine g_iconst (pc := 107) (v := (nI 0)) hX dX3_begin_107 (by decide) ?_
                        refine g_istore (pc := 108) (lv' := [(6, .int (nI 0)), (0, .ref m), (1, .int (nI a0)), (2, .int (nI b0)), (3, .int (nI a1)), (4, .int (nI b1)), (5, .int (nI 1))]) hX dX3_begin_108 (by decide) rfl ?_
                        refine g_sub [0, 1, 2, 3, 4, 5, 6] (lv' := [(6, .int (nI 0)), (0, .ref m), (1, .int (nI a0)), (2, .int (nI b0)), (3, .int (nI a1)), (4, .int (nI b1)), (5, .int (nI 1))]) rfl ?_
                        exact loopB 129 0 le2 mk we (by omega) (by omega) (fun q hq => fle q (by omega)) (fun q hq => absurd hq (Nat.not_lt_zero _)) (fun q hq => absurd hq (Nat.not_lt_zero _))
                      · refine g_aload_n (pc := 93) hX dX3_begin_93 rfl 1 rfl ?_
                        refine g_get (pc := 94) (C := RX3) (T := TX3) (N := 11) (ci := 3) (v := .ref (am 3)) hX inX3_begin_X3 0 rfl rfl 3 (by decide) flX3_begin_19 rfl rfl dX3_begin_94 ?_
                        refine g_iload (pc := 97) hX dX3_begin_97 0 rfl ?_
                        refine g_iconst (pc := 99) (v := (nI 0)) hX dX3_begin_99 (by decide) ?_
                        refine g_iast (pc := 100) (ws' := [(m, .inr (3, [.ref (am 0), .ref (am 1), .ref (am 2), .ref (am 3), .ref (am 4), .ref (am 5), .ref (am 6), .ref (am 7), .int rd, .int wr, .int vi])), (am 0, .inl (K.2.1, 2, .inl (upd (upd po 0 (nI a0)) 1 (nI a1)))), (am 1, .inl (K.2.1, 2, .inl (upd (upd ca 0 (nI b0)) 1 (nI b1)))), (am 2, .inl (K.2.1, 2, .inl go)), (am 3, .inl (K.2.1, 8, .inl (upd le2 i (nI 0)))), (am 4, .inl (K.2.1, 160, .inl pg)), (am 5, .inl (K.2.2.1, 128, .inl mk)), (am 6, .inl (K.2.2.1, 128, .inl we)), (am 7, .inl (K.2.1, 6, .inl co))]) hX 4 rfl (by omega) (by omega) rfl dX3_begin_100 ?_
                        refine g_iinc (pc := 101) (z := 0) (v := (nI (i + 1))) (lv' := [(6, .int (nI (i + 1))), (0, .ref m), (1, .int (nI a0)), (2, .int (nI b0)), (3, .int (nI a1)), (4, .int (nI b1)), (5, .int (nI 1))]) hX dX3_begin_101 rfl (by first | exact nI_add _ _ | rfl) (by decide) rfl ?_
                        refine g_goto (pc := 104) (tgt := 86) hX dX3_begin_104 (by decide) ?_
                        refine g_sub [0, 1, 2, 3, 4, 5, 6] (lv' := [(6, .int (nI (i + 1))), (0, .ref m), (1, .int (nI a0)), (2, .int (nI b0)), (3, .int (nI a1)), (4, .int (nI b1)), (5, .int (nI 1))]) rfl ?_
                        refine ih (i + 1) (upd le2 i (nI 0)) (by omega) (by omega) ?_
                        · intro q hq
                          by_cases e : q = i
                          · rw [e, pk_us]
                          · rw [pk_un e]; exact fle q (by omega)
                  refine g_iconst (pc := 83) (v := (nI 0)) hX dX3_begin_83 (by decide) ?_
                  refine g_istore (pc := 84) (lv' := [(6, .int (nI 0)), (5, .int (nI 1)), (0, .ref m), (1, .int (nI a0)), (2, .int (nI b0)), (3, .int (nI a1)), (4, .int (nI b1))]) hX dX3_begin_84 (by decide) rfl ?_
                  refine g_sub [0, 2, 3, 4, 5, 6, 1] (lv' := [(6, .int (nI 0)), (0, .ref m), (1, .int (nI a0)), (2, .int (nI b0)), (3, .int (nI a1)), (4, .int (nI b1)), (5, .int (nI 1))]) rfl ?_
                  exact loopA 9 0 le (by omega) (by omega)  (fun q hq => absurd hq (Nat.not_lt_zero _))
def rCa : Nat → Int32 := upd (upd (fun _ => 0) 0 (nI 4)) 1 (nI 8)
abbrev rmX3_init : Room := { frames := 1, cells := 8, slots := 436, locals := 40 }
theorem wdX3_init_ml1 : Cond.methodLink RX3 1 objectInit ∈ wsX3_init := by decide +kernel
theorem wdX3_init_oi : Cond.instanceMethod objectInit ∈ wsX3_init := by decide +kernel
theorem wdX3_init_oc : Cond.code objectInit ⟨#[0xb1]⟩ 1 none ∈ wsX3_init := by decide +kernel
theorem wdX3_init_arint : Cond.arrayClass .int ∈ wsX3_init := by decide +kernel
theorem flX3_init_7 : Cond.fieldLink RX3 7 "TwoTierCacheModel" "policies" "[I" ∈ wsX3_init := by decide +kernel
theorem inX3_init_X3 : ∀ w ∈ u_ws RX3 TX3 11, w ∈ wsX3_init := by decide +kernel
theorem flX3_init_13 : Cond.fieldLink RX3 13 "TwoTierCacheModel" "capacities" "[I" ∈ wsX3_init := by decide +kernel
theorem flX3_init_16 : Cond.fieldLink RX3 16 "TwoTierCacheModel" "goals" "[I" ∈ wsX3_init := by decide +kernel
theorem flX3_init_19 : Cond.fieldLink RX3 19 "TwoTierCacheModel" "lengths" "[I" ∈ wsX3_init := by decide +kernel
theorem flX3_init_22 : Cond.fieldLink RX3 22 "TwoTierCacheModel" "pages" "[I" ∈ wsX3_init := by decide +kernel
theorem wdX3_init_arboolean : Cond.arrayClass .boolean ∈ wsX3_init := by decide +kernel
theorem flX3_init_25 : Cond.fieldLink RX3 25 "TwoTierCacheModel" "marks" "[Z" ∈ wsX3_init := by decide +kernel
theorem flX3_init_29 : Cond.fieldLink RX3 29 "TwoTierCacheModel" "wet" "[Z" ∈ wsX3_init := by decide +kernel
theorem flX3_init_32 : Cond.fieldLink RX3 32 "TwoTierCacheModel" "counts" "[I" ∈ wsX3_init := by decide +kernel
set_option maxHeartbeats 4000000 in
set_option maxRecDepth 100000 in
/-- TwoTierCacheModel() -/
theorem c_X3_init (l : Launch) (K : gT) (m : Nat) : Cv l yX3_init wsX3_init rmX3_init K [.ref m] [(m, .inr (3, [.null, .null, .null, .null, .null, .null, .null, .null, .int 0, .int 0, .int 0]))] (fun (u : Nat → Nat) => True) (fun u => mW K m u (fun _ => 0) rCa (fun _ => 0) (fun _ => 0) (fun _ => 0) (fun _ => 0) (fun _ => 0) (fun _ => 0) 0 0 0) 8 436 := by
  refine m_v (cc := cX3_init) (own := RX3) (maxL := 1) (lv0 := [(0, .ref m)]) (by decide) rfl rfl (Nat.le_of_ble_eq_true rfl) rfl ?_
  intro X hX hin hret
  refine g_aload_n (pc := 0) hX dX3_init_0 rfl 0 rfl ?_
  refine g_objInit (pc := 1) hX wdX3_init_ml1 wdX3_init_oi wdX3_init_oc (Nat.le_of_ble_eq_true rfl) (Nat.le_of_ble_eq_true rfl) dX3_init_1 ?_
  refine g_aload_n (pc := 4) hX dX3_init_4 rfl 0 rfl ?_
  refine g_iconst (pc := 5) (v := (nI 2)) hX dX3_init_5 (by decide) ?_
  refine g_newI (pc := 6) hX wdX3_init_arint (by decide) (by decide) (Nat.le_of_ble_eq_true rfl) (Nat.le_of_ble_eq_true rfl) dX3_init_6 (fun q6 => ?_)
  refine g_putF (pc := 8) (C := RX3) (T := TX3) (N := 11) (ci := 3) (v := .ref q6) (ws' := [(m, .inr (3, [.ref q6, .null, .null, .null, .null, .null, .null, .null, .int 0, .int 0, .int 0])), (q6, .inl (K.2.1, 2, .inl (fun _ => 0)))]) hX (hin rfl) inX3_init_X3 tyX3 tyX3_ok nmX3 0 rfl rfl 0 (by decide) flX3_init_7 rfl rfl rfl rfl rfl (Nat.le_of_ble_eq_true rfl) rfl dX3_init_8 ?_
  refine g_aload_n (pc := 11) hX dX3_init_11 rfl 0 rfl ?_
  refine g_iconst (pc := 12) (v := (nI 2)) hX dX3_init_12 (by decide) ?_
  refine g_newI (pc := 13) hX wdX3_init_arint (by decide) (by decide) (Nat.le_of_ble_eq_true rfl) (Nat.le_of_ble_eq_true rfl) dX3_init_13 (fun q13 => ?_)
  refine g_dup (pc := 15) hX dX3_init_15 rfl ?_
  refine g_iconst (pc := 16) (v := (nI 0)) hX dX3_init_16 (by decide) ?_
  refine g_iconst (pc := 17) (v := (nI 4)) hX dX3_init_17 (by decide) ?_
  refine g_iast (pc := 18) (ws' := [(m, .inr (3, [.ref q6, .null, .null, .null, .null, .null, .null, .null, .int 0, .int 0, .int 0])), (q6, .inl (K.2.1, 2, .inl (fun _ => 0))), (q13, .inl (K.2.1, 2, .inl (upd (fun _ => 0) 0 (nI 4))))]) hX 2 rfl (by omega) (by omega) rfl dX3_init_18 ?_
  refine g_dup (pc := 19) hX dX3_init_19 rfl ?_
  refine g_iconst (pc := 20) (v := (nI 1)) hX dX3_init_20 (by decide) ?_
  refine g_bipush (pc := 21) (v := (nI 8)) hX dX3_init_21 (by decide) ?_
  refine g_iast (pc := 23) (ws' := [(m, .inr (3, [.ref q6, .null, .null, .null, .null, .null, .null, .null, .int 0, .int 0, .int 0])), (q6, .inl (K.2.1, 2, .inl (fun _ => 0))), (q13, .inl (K.2.1, 2, .inl (upd (upd (fun _ => 0) 0 (nI 4)) 1 (nI 8))))]) hX 2 rfl (by omega) (by omega) rfl dX3_init_23 ?_
  refine g_putF (pc := 24) (C := RX3) (T := TX3) (N := 11) (ci := 3) (v := .ref q13) (ws' := [(m, .inr (3, [.ref q6, .ref q13, .null, .null, .null, .null, .null, .null, .int 0, .int 0, .int 0])), (q6, .inl (K.2.1, 2, .inl (fun _ => 0))), (q13, .inl (K.2.1, 2, .inl (upd (upd (fun _ => 0) 0 (nI 4)) 1 (nI 8))))]) hX (hin rfl) inX3_init_X3 tyX3 tyX3_ok nmX3 0 rfl rfl 1 (by decide) flX3_init_13 rfl rfl rfl rfl rfl (Nat.le_of_ble_eq_true rfl) rfl dX3_init_24 ?_
  refine g_aload_n (pc := 27) hX dX3_init_27 rfl 0 rfl ?_
  refine g_iconst (pc := 28) (v := (nI 2)) hX dX3_init_28 (by decide) ?_
  refine g_newI (pc := 29) hX wdX3_init_arint (by decide) (by decide) (Nat.le_of_ble_eq_true rfl) (Nat.le_of_ble_eq_true rfl) dX3_init_29 (fun q29 => ?_)
  refine g_putF (pc := 31) (C := RX3) (T := TX3) (N := 11) (ci := 3) (v := .ref q29) (ws' := [(m, .inr (3, [.ref q6, .ref q13, .ref q29, .null, .null, .null, .null, .null, .int 0, .int 0, .int 0])), (q6, .inl (K.2.1, 2, .inl (fun _ => 0))), (q13, .inl (K.2.1, 2, .inl (upd (upd (fun _ => 0) 0 (nI 4)) 1 (nI 8)))), (q29, .inl (K.2.1, 2, .inl (fun _ => 0)))]) hX (hin rfl) inX3_init_X3 tyX3 tyX3_ok nmX3 0 rfl rfl 2 (by decide) flX3_init_16 rfl rfl rfl rfl rfl (Nat.le_of_ble_eq_true rfl) rfl dX3_init_31 ?_
  refine g_aload_n (pc := 34) hX dX3_init_34 rfl 0 rfl ?_
  refine g_bipush (pc := 35) (v := (nI 8)) hX dX3_init_35 (by decide) ?_
  refine g_newI (pc := 37) hX wdX3_init_arint (by decide) (by decide) (Nat.le_of_ble_eq_true rfl) (Nat.le_of_ble_eq_true rfl) dX3_init_37 (fun q37 => ?_)
  refine g_putF (pc := 39) (C := RX3) (T := TX3) (N := 11) (ci := 3) (v := .ref q37) (ws' := [(m, .inr (3, [.ref q6, .ref q13, .ref q29, .ref q37, .null, .null, .null, .null, .int 0, .int 0, .int 0])), (q6, .inl (K.2.1, 2, .inl (fun _ => 0))), (q13, .inl (K.2.1, 2, .inl (upd (upd (fun _ => 0) 0 (nI 4)) 1 (nI 8)))), (q29, .inl (K.2.1, 2, .inl (fun _ => 0))), (q37, .inl (K.2.1, 8, .inl (fun _ => 0)))]) hX (hin rfl) inX3_init_X3 tyX3 tyX3_ok nmX3 0 rfl rfl 3 (by decide) flX3_init_19 rfl rfl rfl rfl rfl (Nat.le_of_ble_eq_true rfl) rfl dX3_init_39 ?_
  refine g_aload_n (pc := 42) hX dX3_init_42 rfl 0 rfl ?_
  refine g_sipush (pc := 43) (v := (nI 160)) hX dX3_init_43 (by decide) ?_
  refine g_newI (pc := 46) hX wdX3_init_arint (by decide) (by decide) (Nat.le_of_ble_eq_true rfl) (Nat.le_of_ble_eq_true rfl) dX3_init_46 (fun q46 => ?_)
  refine g_putF (pc := 48) (C := RX3) (T := TX3) (N := 11) (ci := 3) (v := .ref q46) (ws' := [(m, .inr (3, [.ref q6, .ref q13, .ref q29, .ref q37, .ref q46, .null, .null, .null, .int 0, .int 0, .int 0])), (q6, .inl (K.2.1, 2, .inl (fun _ => 0))), (q13, .inl (K.2.1, 2, .inl (upd (upd (fun _ => 0) 0 (nI 4)) 1 (nI 8)))), (q29, .inl (K.2.1, 2, .inl (fun _ => 0))), (q37, .inl (K.2.1, 8, .inl (fun _ => 0))), (q46, .inl (K.2.1, 160, .inl (fun _ => 0)))]) hX (hin rfl) inX3_init_X3 tyX3 tyX3_ok nmX3 0 rfl rfl 4 (by decide) flX3_init_22 rfl rfl rfl rfl rfl (Nat.le_of_ble_eq_true rfl) rfl dX3_init_48 ?_
  refine g_aload_n (pc := 51) hX dX3_init_51 rfl 0 rfl ?_
  refine g_sipush (pc := 52) (v := (nI 128)) hX dX3_init_52 (by decide) ?_
  refine g_newZ (pc := 55) hX wdX3_init_arboolean (by decide) (by decide) (Nat.le_of_ble_eq_true rfl) (Nat.le_of_ble_eq_true rfl) dX3_init_55 (fun q55 => ?_)
  refine g_putF (pc := 57) (C := RX3) (T := TX3) (N := 11) (ci := 3) (v := .ref q55) (ws' := [(m, .inr (3, [.ref q6, .ref q13, .ref q29, .ref q37, .ref q46, .ref q55, .null, .null, .int 0, .int 0, .int 0])), (q6, .inl (K.2.1, 2, .inl (fun _ => 0))), (q13, .inl (K.2.1, 2, .inl (upd (upd (fun _ => 0) 0 (nI 4)) 1 (nI 8)))), (q29, .inl (K.2.1, 2, .inl (fun _ => 0))), (q37, .inl (K.2.1, 8, .inl (fun _ => 0))), (q46, .inl (K.2.1, 160, .inl (fun _ => 0))), (q55, .inl (K.2.2.1, 128, .inl (fun _ => 0)))]) hX (hin rfl) inX3_init_X3 tyX3 tyX3_ok nmX3 0 rfl rfl 5 (by decide) flX3_init_25 rfl rfl rfl rfl rfl (Nat.le_of_ble_eq_true rfl) rfl dX3_init_57 ?_
  refine g_aload_n (pc := 60) hX dX3_init_60 rfl 0 rfl ?_
  refine g_sipush (pc := 61) (v := (nI 128)) hX dX3_init_61 (by decide) ?_
  refine g_newZ (pc := 64) hX wdX3_init_arboolean (by decide) (by decide) (Nat.le_of_ble_eq_true rfl) (Nat.le_of_ble_eq_true rfl) dX3_init_64 (fun q64 => ?_)
  refine g_putF (pc := 66) (C := RX3) (T := TX3) (N := 11) (ci := 3) (v := .ref q64) (ws' := [(m, .inr (3, [.ref q6, .ref q13, .ref q29, .ref q37, .ref q46, .ref q55, .ref q64, .null, .int 0, .int 0, .int 0])), (q6, .inl (K.2.1, 2, .inl (fun _ => 0))), (q13, .inl (K.2.1, 2, .inl (upd (upd (fun _ => 0) 0 (nI 4)) 1 (nI 8)))), (q29, .inl (K.2.1, 2, .inl (fun _ => 0))), (q37, .inl (K.2.1, 8, .inl (fun _ => 0))), (q46, .inl (K.2.1, 160, .inl (fun _ => 0))), (q55, .inl (K.2.2.1, 128, .inl (fun _ => 0))), (q64, .inl (K.2.2.1, 128, .inl (fun _ => 0)))]) hX (hin rfl) inX3_init_X3 tyX3 tyX3_ok nmX3 0 rfl rfl 6 (by decide) flX3_init_29 rfl rfl rfl rfl rfl (Nat.le_of_ble_eq_true rfl) rfl dX3_init_66 ?_
  refine g_aload_n (pc := 69) hX dX3_init_69 rfl 0 rfl ?_
  refine g_bipush (pc := 70) (v := (nI 6)) hX dX3_init_70 (by decide) ?_
  refine g_newI (pc := 72) hX wdX3_init_arint (by decide) (by decide) (Nat.le_of_ble_eq_true rfl) (Nat.le_of_ble_eq_true rfl) dX3_init_72 (fun q72 => ?_)
  refine g_putF (pc := 74) (C := RX3) (T := TX3) (N := 11) (ci := 3) (v := .ref q72) (ws' := [(m, .inr (3, [.ref q6, .ref q13, .ref q29, .ref q37, .ref q46, .ref q55, .ref q64, .ref q72, .int 0, .int 0, .int 0])), (q6, .inl (K.2.1, 2, .inl (fun _ => 0))), (q13, .inl (K.2.1, 2, .inl (upd (upd (fun _ => 0) 0 (nI 4)) 1 (nI 8)))), (q29, .inl (K.2.1, 2, .inl (fun _ => 0))), (q37, .inl (K.2.1, 8, .inl (fun _ => 0))), (q46, .inl (K.2.1, 160, .inl (fun _ => 0))), (q55, .inl (K.2.2.1, 128, .inl (fun _ => 0))), (q64, .inl (K.2.2.1, 128, .inl (fun _ => 0))), (q72, .inl (K.2.1, 6, .inl (fun _ => 0)))]) hX (hin rfl) inX3_init_X3 tyX3 tyX3_ok nmX3 0 rfl rfl 7 (by decide) flX3_init_32 rfl rfl rfl rfl rfl (Nat.le_of_ble_eq_true rfl) rfl dX3_init_74 ?_
  exact hret (u := adl [q6, q13, q29, q37, q46, q55, q64, q72]) dX3_init_77 trivial rfl
theorem mR_init : mR (sF (tNew 0 4) (tNew 0 8)) (fun _ => 0) rCa (fun _ => 0) (fun _ => 0) (fun _ => 0) (fun _ => 0) (fun _ => 0) (fun _ => 0) := mR_new ⟨rfl, rfl⟩ ⟨rfl, rfl⟩ ⟨rfl, rfl⟩ (fun _ _ => rfl) (fun _ _ => rfl) (fun _ _ => rfl) (fun _ _ => rfl)
