set_option maxHeartbeats 4000000 in
set_option maxRecDepth 100000 in
theorem c_L_size (Ll : Launch) (hlst : Ll.stackTraces = false) (D : va_G) (cI cL : ClassId) (d : Nat) (ro : Nat) (rn : Nat) (rm : Nat) (bk : Nat) (uw : Nat) (lw : Nat) (tk : Nat) (hd : Int32) (oo : Nat) (lo : Nat) (fo : Nat → Int32) (qn : Nat) (ln : Nat) (fn : Nat → Int32) (x : Int32) (y : Int32) (h1 : lo ≤ 1200) (h2 : ln ≤ 1200) (sz : Nat) : Met Ll yL_size wsL_size { frames := 8, cells := 1, slots := 6, locals := 132 } (ds_PX D cI cL [.ref d, .int x, .int y] [(d, .inr (4, [.ref ro, .ref rn, .ref rm, .ref bk, .ref uw, .ref lw, .ref tk, .int hd])), (ro, .inr (1, [.ref oo, .int (nI lo)])), (oo, .inl (cI, 1200, .inl fo)), (rn, .inr (1, [.ref qn, .int (nI ln)])), (qn, .inl (cI, 1200, .inl fn))] sz) (ds_Qi D (fun (r : Int32) (u : rw_T) => r = e_size x y ∧ u = n_size x y (lo, fo, ln, fn)) (fun u : rw_T => [(d, .inr (4, [.ref ro, .ref rn, .ref rm, .ref bk, .ref uw, .ref lw, .ref tk, .int hd])), (ro, .inr (1, [.ref oo, .int (nI u.1)])), (oo, .inl (cI, 1200, .inl u.2.1)), (rn, .inr (1, [.ref qn, .int (nI u.2.2.1)])), (qn, .inl (cI, 1200, .inl u.2.2.2))]) (va_A [(d, .inr (4, [.ref ro, .ref rn, .ref rm, .ref bk, .ref uw, .ref lw, .ref tk, .int hd])), (ro, .inr (1, [.ref oo, .int (nI lo)])), (oo, .inl (cI, 1200, .inl fo)), (rn, .inr (1, [.ref qn, .int (nI ln)])), (qn, .inl (cI, 1200, .inl fn))] sz)) 1 6 (va_A [(d, .inr (4, [.ref ro, .ref rn, .ref rm, .ref bk, .ref uw, .ref lw, .ref tk, .int hd])), (ro, .inr (1, [.ref oo, .int (nI lo)])), (oo, .inl (cI, 1200, .inl fo)), (rn, .inr (1, [.ref qn, .int (nI ln)])), (qn, .inl (cI, 1200, .inl fn))] sz) := by
  refine ds_enterW (Qf := (fun A9 => ds_Qi D (fun (r : Int32) (u : rw_T) => r = e_size x y ∧ u = n_size x y (lo, fo, ln, fn)) (fun u : rw_T => [(d, .inr (4, [.ref ro, .ref rn, .ref rm, .ref bk, .ref uw, .ref lw, .ref tk, .int hd])), (ro, .inr (1, [.ref oo, .int (nI u.1)])), (oo, .inl (cI, 1200, .inl u.2.1)), (rn, .inr (1, [.ref qn, .int (nI u.2.2.1)])), (qn, .inl (cI, 1200, .inl u.2.2.2))]) A9)) (cc := cL_size) (maxL := 4) (ret := (some .int)) (by decide) rfl (Nat.le_of_ble_eq_true rfl) ?_
  intro Pp Ee Ss Mm Aa Bb Me Cc hx hb hml hr ht hown hlk hnm A H locs hA hP hD hS hK hZ htab ls hl
  have hl : lv_has ls 4 [(0, .ref d), (1, .int x), (2, .int y)] := hl
  change Ss.vm.findClass RL = some Mm.cls at hown
  by_cases hok : rok x ∧ ¬ (y < 0 ∨ nI 1200 < y)
  ·
    obtain ⟨hrk, hy⟩ := hok
    obtain ⟨k, hk, e9⟩ := le_nat (n := 1200) (by omega) hy
    subst e9
    have hro := hrk
    rcases hrk with rfl | rfl
    ·
      have hl : lv_has ls 4 [(0, .ref d), (1, .int (nI 0)), (2, .int (nI k))] := hl
      refine lv_aload_n hx hb dL_size_0 rfl (lv_at hl 0 rfl) ?_
      refine lv_iload_n hx hb dL_size_1 rfl (lv_at hl 1 rfl) ?_
      refine lv_iload_n hx hb dL_size_2 rfl (lv_at hl 2 rfl) ?_
      refine ds_callv (wc := [(d, .inr (4, [.ref ro, .ref rn, .ref rm, .ref bk, .ref uw, .ref lw, .ref tk, .int hd])), (ro, .inr (1, [.ref oo, .int (nI lo)])), (oo, .inl (cI, 1200, .inl fo))]) (wr := [(rn, .inr (1, [.ref qn, .int (nI ln)])), (qn, .inl (cI, 1200, .inl fn))]) (wo := (fun u2 : Unit => [(d, .inr (4, [.ref ro, .ref rn, .ref rm, .ref bk, .ref uw, .ref lw, .ref tk, .int hd])), (ro, .inr (1, [.ref oo, .int (nI k)])), (oo, .inl (cI, 1200, .inl (rz fo lo k)))])) (wn := (fun u2 : Unit => [(d, .inr (4, [.ref ro, .ref rn, .ref rm, .ref bk, .ref uw, .ref lw, .ref tk, .int hd])), (ro, .inr (1, [.ref oo, .int (nI k)])), (oo, .inl (cI, 1200, .inl (rz fo lo k))), (rn, .inr (1, [.ref qn, .int (nI ln)])), (qn, .inl (cI, 1200, .inl fn))])) (isC := [0, 1, 2]) (isR := [3, 4]) hP hD hS hA ⟨rfl, rfl, by decide, by decide, by decide⟩ [2, 3, 4, 0, 1] (by decide) (fun _ => rfl) (fun hPc hDc => va_runV (As := [.int (nI 0), .int (nI k)]) (rest := []) ⟨hx, hb, hml, hown, ht⟩ (c_X4_size0 Ll D cI cL d ro rn rm bk uw lw tk hd oo lo fo k (by omega) (by omega) H.size) ⟨(callB_of 2 ht g_X4_size rfl rfl rfl (ht _ iw_30) (ht _ iw_257) hd_X4_size ⟨Nat.le_of_ble_eq_true rfl, Nat.le_of_ble_eq_true rfl⟩), (ht _ iw_258), (ht _ iw_259)⟩ (ds_pV hPc hDc hK (q0 := 0) rfl rfl) rfl rfl hl.1 rfl (lv_room (Nat.le_of_ble_eq_true rfl)) dL_size_3 ⟨Nat.le_of_ble_eq_true rfl, Nat.le_of_ble_eq_true rfl⟩) (fun u2 H locs hp3 hP hD hS => ?_)
      have hP : va_P D vwCl [(d, .inr (4, [.ref ro, .ref rn, .ref rm, .ref bk, .ref uw, .ref lw, .ref tk, .int hd])), (ro, .inr (1, [.ref oo, .int (nI k)])), (oo, .inl (cI, 1200, .inl (rz fo lo k))), (rn, .inr (1, [.ref qn, .int (nI ln)])), (qn, .inl (cI, 1200, .inl fn))] H := hP
      have hD : va_D A [(d, .inr (4, [.ref ro, .ref rn, .ref rm, .ref bk, .ref uw, .ref lw, .ref tk, .int hd])), (ro, .inr (1, [.ref oo, .int (nI k)])), (oo, .inl (cI, 1200, .inl (rz fo lo k))), (rn, .inr (1, [.ref qn, .int (nI ln)])), (qn, .inl (cI, 1200, .inl fn))] := hD
      have hp3 : True := hp3
      refine lv_goto (tgt := 12) hx hb dL_size_6 (by decide) ?_
      refine lv_iconst (v := nI 0) hx hb dL_size_12 (by decide +kernel) ?_
      exact ds_iret hx hb hr hlk rfl (k, rz fo lo k, ln, fn) ⟨(e_size_ok hro hk).symm, (n_size_0 hk).symm⟩ hP hD hS (Nat.le_of_ble_eq_true rfl) (Nat.le_of_ble_eq_true rfl) dL_size_13
    ·
      have hl : lv_has ls 4 [(0, .ref d), (1, .int (nI 1)), (2, .int (nI k))] := hl
      refine lv_aload_n hx hb dL_size_0 rfl (lv_at hl 0 rfl) ?_
      refine lv_iload_n hx hb dL_size_1 rfl (lv_at hl 1 rfl) ?_
      refine lv_iload_n hx hb dL_size_2 rfl (lv_at hl 2 rfl) ?_
      refine ds_callv (wc := [(d, .inr (4, [.ref ro, .ref rn, .ref rm, .ref bk, .ref uw, .ref lw, .ref tk, .int hd])), (rn, .inr (1, [.ref qn, .int (nI ln)])), (qn, .inl (cI, 1200, .inl fn))]) (wr := [(ro, .inr (1, [.ref oo, .int (nI lo)])), (oo, .inl (cI, 1200, .inl fo))]) (wo := (fun u5 : Unit => [(d, .inr (4, [.ref ro, .ref rn, .ref rm, .ref bk, .ref uw, .ref lw, .ref tk, .int hd])), (rn, .inr (1, [.ref qn, .int (nI k)])), (qn, .inl (cI, 1200, .inl (rz fn ln k)))])) (wn := (fun u5 : Unit => [(d, .inr (4, [.ref ro, .ref rn, .ref rm, .ref bk, .ref uw, .ref lw, .ref tk, .int hd])), (ro, .inr (1, [.ref oo, .int (nI lo)])), (oo, .inl (cI, 1200, .inl fo)), (rn, .inr (1, [.ref qn, .int (nI k)])), (qn, .inl (cI, 1200, .inl (rz fn ln k)))])) (isC := [0, 3, 4]) (isR := [1, 2]) hP hD hS hA ⟨rfl, rfl, by decide, by decide, by decide⟩ [2, 0, 1, 3, 4] (by decide) (fun _ => rfl) (fun hPc hDc => va_runV (As := [.int (nI 1), .int (nI k)]) (rest := []) ⟨hx, hb, hml, hown, ht⟩ (c_X4_size1 Ll D cI cL d ro rn rm bk uw lw tk hd qn ln fn k (by omega) (by omega) H.size) ⟨(callB_of 2 ht g_X4_size rfl rfl rfl (ht _ iw_30) (ht _ iw_257) hd_X4_size ⟨Nat.le_of_ble_eq_true rfl, Nat.le_of_ble_eq_true rfl⟩), (ht _ iw_258), (ht _ iw_259)⟩ (ds_pV hPc hDc hK (q0 := 0) rfl rfl) rfl rfl hl.1 rfl (lv_room (Nat.le_of_ble_eq_true rfl)) dL_size_3 ⟨Nat.le_of_ble_eq_true rfl, Nat.le_of_ble_eq_true rfl⟩) (fun u5 H locs hp6 hP hD hS => ?_)
      have hP : va_P D vwCl [(d, .inr (4, [.ref ro, .ref rn, .ref rm, .ref bk, .ref uw, .ref lw, .ref tk, .int hd])), (ro, .inr (1, [.ref oo, .int (nI lo)])), (oo, .inl (cI, 1200, .inl fo)), (rn, .inr (1, [.ref qn, .int (nI k)])), (qn, .inl (cI, 1200, .inl (rz fn ln k)))] H := hP
      have hD : va_D A [(d, .inr (4, [.ref ro, .ref rn, .ref rm, .ref bk, .ref uw, .ref lw, .ref tk, .int hd])), (ro, .inr (1, [.ref oo, .int (nI lo)])), (oo, .inl (cI, 1200, .inl fo)), (rn, .inr (1, [.ref qn, .int (nI k)])), (qn, .inl (cI, 1200, .inl (rz fn ln k)))] := hD
      have hp6 : True := hp6
      refine lv_goto (tgt := 12) hx hb dL_size_6 (by decide) ?_
      refine lv_iconst (v := nI 0) hx hb dL_size_12 (by decide +kernel) ?_
      exact ds_iret hx hb hr hlk rfl (lo, fo, k, rz fn ln k) ⟨(e_size_ok hro hk).symm, (n_size_1 hk).symm⟩ hP hD hS (Nat.le_of_ble_eq_true rfl) (Nat.le_of_ble_eq_true rfl) dL_size_13
  ·
    have hbad := hok
    by_cases hrk : rok x
    ·
      have hro := hrk
      rcases hrk with rfl | rfl
      ·
        have hl : lv_has ls 4 [(0, .ref d), (1, .int (nI 0)), (2, .int y)] := hl
        refine lv_aload_n hx hb dL_size_0 rfl (lv_at hl 0 rfl) ?_
        refine lv_iload_n hx hb dL_size_1 rfl (lv_at hl 1 rfl) ?_
        refine lv_iload_n hx hb dL_size_2 rfl (lv_at hl 2 rfl) ?_
        refine ds_callXv (wc := [(d, .inr (4, [.ref ro, .ref rn, .ref rm, .ref bk, .ref uw, .ref lw, .ref tk, .int hd]))]) (wr := [(ro, .inr (1, [.ref oo, .int (nI lo)])), (oo, .inl (cI, 1200, .inl fo)), (rn, .inr (1, [.ref qn, .int (nI ln)])), (qn, .inl (cI, 1200, .inl fn))]) (wo := (fun u8 : Unit => [(d, .inr (4, [.ref ro, .ref rn, .ref rm, .ref bk, .ref uw, .ref lw, .ref tk, .int hd]))])) (wn := (fun u8 : Unit => [(d, .inr (4, [.ref ro, .ref rn, .ref rm, .ref bk, .ref uw, .ref lw, .ref tk, .int hd])), (ro, .inr (1, [.ref oo, .int (nI lo)])), (oo, .inl (cI, 1200, .inl fo)), (rn, .inr (1, [.ref qn, .int (nI ln)])), (qn, .inl (cI, 1200, .inl fn))])) (isC := [0]) (isR := [1, 2, 3, 4]) hP hD hS hA ⟨rfl, rfl, by decide, by decide, by decide⟩ [4, 0, 1, 2, 3] (by decide) (fun _ => rfl) [4, 0, 1, 2, 3] rfl (fun hPc hDc hFc => vx_runV (As := [.int (nI 0), .int y]) (rest := []) ⟨hx, hb, hml, hown, ht⟩ (x_X4_size_0 Ll hlst D cI cL d ro rn rm bk uw lw tk hd y (Classical.not_not.mp (fun q => hbad ⟨hro, q⟩)) H.size) ⟨(callB_of 2 ht g_X4_size rfl rfl rfl (ht _ iw_30) (ht _ iw_257) hd_X4_size ⟨Nat.le_of_ble_eq_true rfl, Nat.le_of_ble_eq_true rfl⟩), (ht _ iw_258), (ht _ iw_259)⟩ (ds_pVX hPc hDc hK hZ hS hFc (q0 := 0) rfl rfl) rfl rfl hl.1 rfl (lv_room (Nat.le_of_ble_eq_true rfl)) dL_size_3 ⟨Nat.le_of_ble_eq_true rfl, Nat.le_of_ble_eq_true rfl⟩) (fun E9 ce9 q9 H locs hpx hP hS h9 hn9 hc9 => ?_) (fun u8 H locs hp9 hP hD hS => ?_)
        ·
          have hP : va_P D vwCl [(d, .inr (4, [.ref ro, .ref rn, .ref rm, .ref bk, .ref uw, .ref lw, .ref tk, .int hd])), (ro, .inr (1, [.ref oo, .int (nI lo)])), (oo, .inl (cI, 1200, .inl fo)), (rn, .inr (1, [.ref qn, .int (nI ln)])), (qn, .inl (cI, 1200, .inl fn))] H := hP
          subst hpx
          refine vx_catch (own := RL) (name := "java/lang/IllegalArgumentException") hown [] ⟨0, 6, 9, 13⟩ [] (by rw [htab]; rfl) (fun z hz => by cases hz) (by decide) (by decide) (ht _ iw_377) (ncu_0 hK) h9 hn9 hc9 ?_
          refine lv_astore_n (lv' := [(3, .ref q9), (0, .ref d), (1, .int (nI 0)), (2, .int y)]) hx hb dL_size_9 rfl hl (Nat.le_of_ble_eq_true rfl) rfl (fun ls hl => ?_)
          refine lv_iconst (v := nI 1) hx hb dL_size_10 (by decide +kernel) ?_
          exact ds_iret hx hb hr hlk rfl (lo, fo, ln, fn) ⟨(n_size_x (t := (lo, fo, ln, fn)) hbad).2.symm, (n_size_x hbad).1.symm⟩ hP hD hS (Nat.le_of_ble_eq_true rfl) (Nat.le_of_ble_eq_true rfl) dL_size_11
        ·
          exact False.elim hp9
      ·
        have hl : lv_has ls 4 [(0, .ref d), (1, .int (nI 1)), (2, .int y)] := hl
        refine lv_aload_n hx hb dL_size_0 rfl (lv_at hl 0 rfl) ?_
        refine lv_iload_n hx hb dL_size_1 rfl (lv_at hl 1 rfl) ?_
        refine lv_iload_n hx hb dL_size_2 rfl (lv_at hl 2 rfl) ?_
        refine ds_callXv (wc := [(d, .inr (4, [.ref ro, .ref rn, .ref rm, .ref bk, .ref uw, .ref lw, .ref tk, .int hd]))]) (wr := [(ro, .inr (1, [.ref oo, .int (nI lo)])), (oo, .inl (cI, 1200, .inl fo)), (rn, .inr (1, [.ref qn, .int (nI ln)])), (qn, .inl (cI, 1200, .inl fn))]) (wo := (fun u11 : Unit => [(d, .inr (4, [.ref ro, .ref rn, .ref rm, .ref bk, .ref uw, .ref lw, .ref tk, .int hd]))])) (wn := (fun u11 : Unit => [(d, .inr (4, [.ref ro, .ref rn, .ref rm, .ref bk, .ref uw, .ref lw, .ref tk, .int hd])), (ro, .inr (1, [.ref oo, .int (nI lo)])), (oo, .inl (cI, 1200, .inl fo)), (rn, .inr (1, [.ref qn, .int (nI ln)])), (qn, .inl (cI, 1200, .inl fn))])) (isC := [0]) (isR := [1, 2, 3, 4]) hP hD hS hA ⟨rfl, rfl, by decide, by decide, by decide⟩ [4, 0, 1, 2, 3] (by decide) (fun _ => rfl) [4, 0, 1, 2, 3] rfl (fun hPc hDc hFc => vx_runV (As := [.int (nI 1), .int y]) (rest := []) ⟨hx, hb, hml, hown, ht⟩ (x_X4_size_1 Ll hlst D cI cL d ro rn rm bk uw lw tk hd y (Classical.not_not.mp (fun q => hbad ⟨hro, q⟩)) H.size) ⟨(callB_of 2 ht g_X4_size rfl rfl rfl (ht _ iw_30) (ht _ iw_257) hd_X4_size ⟨Nat.le_of_ble_eq_true rfl, Nat.le_of_ble_eq_true rfl⟩), (ht _ iw_258), (ht _ iw_259)⟩ (ds_pVX hPc hDc hK hZ hS hFc (q0 := 0) rfl rfl) rfl rfl hl.1 rfl (lv_room (Nat.le_of_ble_eq_true rfl)) dL_size_3 ⟨Nat.le_of_ble_eq_true rfl, Nat.le_of_ble_eq_true rfl⟩) (fun E9 ce9 q9 H locs hpx hP hS h9 hn9 hc9 => ?_) (fun u11 H locs hp12 hP hD hS => ?_)
        ·
          have hP : va_P D vwCl [(d, .inr (4, [.ref ro, .ref rn, .ref rm, .ref bk, .ref uw, .ref lw, .ref tk, .int hd])), (ro, .inr (1, [.ref oo, .int (nI lo)])), (oo, .inl (cI, 1200, .inl fo)), (rn, .inr (1, [.ref qn, .int (nI ln)])), (qn, .inl (cI, 1200, .inl fn))] H := hP
          subst hpx
          refine vx_catch (own := RL) (name := "java/lang/IllegalArgumentException") hown [] ⟨0, 6, 9, 13⟩ [] (by rw [htab]; rfl) (fun z hz => by cases hz) (by decide) (by decide) (ht _ iw_377) (ncu_0 hK) h9 hn9 hc9 ?_
          refine lv_astore_n (lv' := [(3, .ref q9), (0, .ref d), (1, .int (nI 1)), (2, .int y)]) hx hb dL_size_9 rfl hl (Nat.le_of_ble_eq_true rfl) rfl (fun ls hl => ?_)
          refine lv_iconst (v := nI 1) hx hb dL_size_10 (by decide +kernel) ?_
          exact ds_iret hx hb hr hlk rfl (lo, fo, ln, fn) ⟨(n_size_x (t := (lo, fo, ln, fn)) hbad).2.symm, (n_size_x hbad).1.symm⟩ hP hD hS (Nat.le_of_ble_eq_true rfl) (Nat.le_of_ble_eq_true rfl) dL_size_11
        ·
          exact False.elim hp12
    ·
      refine lv_aload_n hx hb dL_size_0 rfl (lv_at hl 0 rfl) ?_
      refine lv_iload_n hx hb dL_size_1 rfl (lv_at hl 1 rfl) ?_
      refine lv_iload_n hx hb dL_size_2 rfl (lv_at hl 2 rfl) ?_
      refine ds_callXv (wc := [(d, .inr (4, [.ref ro, .ref rn, .ref rm, .ref bk, .ref uw, .ref lw, .ref tk, .int hd]))]) (wr := [(ro, .inr (1, [.ref oo, .int (nI lo)])), (oo, .inl (cI, 1200, .inl fo)), (rn, .inr (1, [.ref qn, .int (nI ln)])), (qn, .inl (cI, 1200, .inl fn))]) (wo := (fun u14 : Unit => [(d, .inr (4, [.ref ro, .ref rn, .ref rm, .ref bk, .ref uw, .ref lw, .ref tk, .int hd]))])) (wn := (fun u14 : Unit => [(d, .inr (4, [.ref ro, .ref rn, .ref rm, .ref bk, .ref uw, .ref lw, .ref tk, .int hd])), (ro, .inr (1, [.ref oo, .int (nI lo)])), (oo, .inl (cI, 1200, .inl fo)), (rn, .inr (1, [.ref qn, .int (nI ln)])), (qn, .inl (cI, 1200, .inl fn))])) (isC := [0]) (isR := [1, 2, 3, 4]) hP hD hS hA ⟨rfl, rfl, by decide, by decide, by decide⟩ [4, 0, 1, 2, 3] (by decide) (fun _ => rfl) [4, 0, 1, 2, 3] rfl (fun hPc hDc hFc => vx_runV (As := [.int x, .int y]) (rest := []) ⟨hx, hb, hml, hown, ht⟩ (x_X4_size_r Ll hlst D cI cL d ro rn rm bk uw lw tk hd x y (fun z => hrk (Or.inl z)) (fun z => hrk (Or.inr z)) H.size) ⟨(callB_of 2 ht g_X4_size rfl rfl rfl (ht _ iw_30) (ht _ iw_257) hd_X4_size ⟨Nat.le_of_ble_eq_true rfl, Nat.le_of_ble_eq_true rfl⟩), (ht _ iw_258), (ht _ iw_259)⟩ (ds_pVX hPc hDc hK hZ hS hFc (q0 := 0) rfl rfl) rfl rfl hl.1 rfl (lv_room (Nat.le_of_ble_eq_true rfl)) dL_size_3 ⟨Nat.le_of_ble_eq_true rfl, Nat.le_of_ble_eq_true rfl⟩) (fun E9 ce9 q9 H locs hpx hP hS h9 hn9 hc9 => ?_) (fun u14 H locs hp15 hP hD hS => ?_)
      ·
        have hP : va_P D vwCl [(d, .inr (4, [.ref ro, .ref rn, .ref rm, .ref bk, .ref uw, .ref lw, .ref tk, .int hd])), (ro, .inr (1, [.ref oo, .int (nI lo)])), (oo, .inl (cI, 1200, .inl fo)), (rn, .inr (1, [.ref qn, .int (nI ln)])), (qn, .inl (cI, 1200, .inl fn))] H := hP
        subst hpx
        refine vx_catch (own := RL) (name := "java/lang/IllegalArgumentException") hown [] ⟨0, 6, 9, 13⟩ [] (by rw [htab]; rfl) (fun z hz => by cases hz) (by decide) (by decide) (ht _ iw_377) (ncu_0 hK) h9 hn9 hc9 ?_
        refine lv_astore_n (lv' := [(3, .ref q9), (0, .ref d), (1, .int x), (2, .int y)]) hx hb dL_size_9 rfl hl (Nat.le_of_ble_eq_true rfl) rfl (fun ls hl => ?_)
        refine lv_iconst (v := nI 1) hx hb dL_size_10 (by decide +kernel) ?_
        exact ds_iret hx hb hr hlk rfl (lo, fo, ln, fn) ⟨(n_size_x (t := (lo, fo, ln, fn)) hbad).2.symm, (n_size_x hbad).1.symm⟩ hP hD hS (Nat.le_of_ble_eq_true rfl) (Nat.le_of_ble_eq_true rfl) dL_size_11
      ·
        exact False.elim hp15
