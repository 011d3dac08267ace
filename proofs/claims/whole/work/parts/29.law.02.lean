set_option maxHeartbeats 4000000 in
set_option maxRecDepth 100000 in
theorem c_L_put (Ll : Launch) (hlst : Ll.stackTraces = false) (D : va_G) (cI cL : ClassId) (d : Nat) (ro : Nat) (rn : Nat) (rm : Nat) (bk : Nat) (uw : Nat) (lw : Nat) (tk : Nat) (hd : Int32) (oo : Nat) (lo : Nat) (fo : Nat → Int32) (qn : Nat) (ln : Nat) (fn : Nat → Int32) (x : Int32) (y : Int32) (v : Int64) (h1 : lo ≤ 1200) (h2 : ln ≤ 1200) (sz : Nat) : Met Ll yL_put wsL_put { frames := 8, cells := 1, slots := 6, locals := 135 } (ds_PX D cI cL [.ref d, .int x, .int y, .long v] [(d, .inr (4, [.ref ro, .ref rn, .ref rm, .ref bk, .ref uw, .ref lw, .ref tk, .int hd])), (ro, .inr (1, [.ref oo, .int (nI lo)])), (oo, .inl (cI, 1200, .inl fo)), (rn, .inr (1, [.ref qn, .int (nI ln)])), (qn, .inl (cI, 1200, .inl fn))] sz) (ds_Qi D (fun (r : Int32) (u : rw_T) => r = e_put x y lo ln ∧ u = n_put x y v (lo, fo, ln, fn)) (fun u : rw_T => [(d, .inr (4, [.ref ro, .ref rn, .ref rm, .ref bk, .ref uw, .ref lw, .ref tk, .int hd])), (ro, .inr (1, [.ref oo, .int (nI u.1)])), (oo, .inl (cI, 1200, .inl u.2.1)), (rn, .inr (1, [.ref qn, .int (nI u.2.2.1)])), (qn, .inl (cI, 1200, .inl u.2.2.2))]) (va_A [(d, .inr (4, [.ref ro, .ref rn, .ref rm, .ref bk, .ref uw, .ref lw, .ref tk, .int hd])), (ro, .inr (1, [.ref oo, .int (nI lo)])), (oo, .inl (cI, 1200, .inl fo)), (rn, .inr (1, [.ref qn, .int (nI ln)])), (qn, .inl (cI, 1200, .inl fn))] sz)) 1 6 (va_A [(d, .inr (4, [.ref ro, .ref rn, .ref rm, .ref bk, .ref uw, .ref lw, .ref tk, .int hd])), (ro, .inr (1, [.ref oo, .int (nI lo)])), (oo, .inl (cI, 1200, .inl fo)), (rn, .inr (1, [.ref qn, .int (nI ln)])), (qn, .inl (cI, 1200, .inl fn))] sz) := by
  refine ds_enterW (Qf := (fun A9 => ds_Qi D (fun (r : Int32) (u : rw_T) => r = e_put x y lo ln ∧ u = n_put x y v (lo, fo, ln, fn)) (fun u : rw_T => [(d, .inr (4, [.ref ro, .ref rn, .ref rm, .ref bk, .ref uw, .ref lw, .ref tk, .int hd])), (ro, .inr (1, [.ref oo, .int (nI u.1)])), (oo, .inl (cI, 1200, .inl u.2.1)), (rn, .inr (1, [.ref qn, .int (nI u.2.2.1)])), (qn, .inl (cI, 1200, .inl u.2.2.2))]) A9)) (cc := cL_put) (maxL := 6) (ret := (some .int)) (by decide) rfl (Nat.le_of_ble_eq_true rfl) ?_
  intro Pp Ee Ss Mm Aa Bb Me Cc hx hb hml hr ht hown hlk hnm A H locs hA hP hD hS hK hZ htab ls hl
  have hl : lv_has ls 6 [(0, .ref d), (1, .int x), (2, .int y), (3, .long v)] := hl
  change Ss.vm.findClass RL = some Mm.cls at hown
  by_cases hrk : rok x
  ·
    have hro := hrk
    rcases hrk with rfl | rfl
    ·
      have hl : lv_has ls 6 [(0, .ref d), (1, .int (nI 0)), (2, .int y), (3, .long v)] := hl
      by_cases hi : iok y lo
      ·
        obtain ⟨q, hq, e9⟩ := iok_nat (by omega) hi
        subst e9
        have hl : lv_has ls 6 [(0, .ref d), (1, .int (nI 0)), (2, .int (nI q)), (3, .long v)] := hl
        refine lv_aload_n hx hb dL_put_0 rfl (lv_at hl 0 rfl) ?_
        refine lv_iload_n hx hb dL_put_1 rfl (lv_at hl 1 rfl) ?_
        refine lv_iload_n hx hb dL_put_2 rfl (lv_at hl 2 rfl) ?_
        refine lv_lload_n hx hb dL_put_3 rfl (lv_at hl 3 rfl) ?_
        refine ds_callv (wc := [(d, .inr (4, [.ref ro, .ref rn, .ref rm, .ref bk, .ref uw, .ref lw, .ref tk, .int hd])), (ro, .inr (1, [.ref oo, .int (nI lo)])), (oo, .inl (cI, 1200, .inl fo))]) (wr := [(rn, .inr (1, [.ref qn, .int (nI ln)])), (qn, .inl (cI, 1200, .inl fn))]) (wo := (fun u2 : Unit => [(d, .inr (4, [.ref ro, .ref rn, .ref rm, .ref bk, .ref uw, .ref lw, .ref tk, .int hd])), (ro, .inr (1, [.ref oo, .int (nI lo)])), (oo, .inl (cI, 1200, .inl (wr fo q v (min 8 (lo - q)))))])) (wn := (fun u2 : Unit => [(d, .inr (4, [.ref ro, .ref rn, .ref rm, .ref bk, .ref uw, .ref lw, .ref tk, .int hd])), (ro, .inr (1, [.ref oo, .int (nI lo)])), (oo, .inl (cI, 1200, .inl (wr fo q v (min 8 (lo - q))))), (rn, .inr (1, [.ref qn, .int (nI ln)])), (qn, .inl (cI, 1200, .inl fn))])) (isC := [0, 1, 2]) (isR := [3, 4]) hP hD hS hA ⟨rfl, rfl, by decide, by decide, by decide⟩ [2, 3, 4, 0, 1] (by decide) (fun _ => rfl) (fun hPc hDc => va_runV (As := [.int (nI 0), .int (nI q), .long v]) (rest := []) ⟨hx, hb, hml, hown, ht⟩ (c_X4_put0 Ll D cI cL d ro rn rm bk uw lw tk hd oo lo fo q v (by omega) (by omega) H.size) ⟨(callB_of 3 ht g_X4_put rfl rfl rfl (ht _ iw_30) (ht _ iw_261) hd_X4_put ⟨Nat.le_of_ble_eq_true rfl, Nat.le_of_ble_eq_true rfl⟩), (ht _ iw_262), (ht _ iw_263)⟩ (ds_pV hPc hDc hK (q0 := 0) rfl rfl) rfl rfl hl.1 rfl (lv_room (Nat.le_of_ble_eq_true rfl)) dL_put_4 ⟨Nat.le_of_ble_eq_true rfl, Nat.le_of_ble_eq_true rfl⟩) (fun u2 H locs hp3 hP hD hS => ?_)
        have hP : va_P D vwCl [(d, .inr (4, [.ref ro, .ref rn, .ref rm, .ref bk, .ref uw, .ref lw, .ref tk, .int hd])), (ro, .inr (1, [.ref oo, .int (nI lo)])), (oo, .inl (cI, 1200, .inl (wr fo q v (min 8 (lo - q))))), (rn, .inr (1, [.ref qn, .int (nI ln)])), (qn, .inl (cI, 1200, .inl fn))] H := hP
        have hD : va_D A [(d, .inr (4, [.ref ro, .ref rn, .ref rm, .ref bk, .ref uw, .ref lw, .ref tk, .int hd])), (ro, .inr (1, [.ref oo, .int (nI lo)])), (oo, .inl (cI, 1200, .inl (wr fo q v (min 8 (lo - q))))), (rn, .inr (1, [.ref qn, .int (nI ln)])), (qn, .inl (cI, 1200, .inl fn))] := hD
        have hp3 : True := hp3
        refine lv_goto (tgt := 18) hx hb dL_put_7 (by decide) ?_
        refine lv_iconst (v := nI 0) hx hb dL_put_18 (by decide +kernel) ?_
        exact ds_iret hx hb hr hlk rfl (lo, wr fo q v (min 8 (lo - q)), ln, fn) ⟨(e_put_ok hro (by rw [rsel_0]; exact iok_of hq (by omega))).symm, (n_put_0 (by omega) hq).symm⟩ hP hD hS (Nat.le_of_ble_eq_true rfl) (Nat.le_of_ble_eq_true rfl) dL_put_19
      ·
        refine lv_aload_n hx hb dL_put_0 rfl (lv_at hl 0 rfl) ?_
        refine lv_iload_n hx hb dL_put_1 rfl (lv_at hl 1 rfl) ?_
        refine lv_iload_n hx hb dL_put_2 rfl (lv_at hl 2 rfl) ?_
        refine lv_lload_n hx hb dL_put_3 rfl (lv_at hl 3 rfl) ?_
        refine ds_callXv (wc := [(d, .inr (4, [.ref ro, .ref rn, .ref rm, .ref bk, .ref uw, .ref lw, .ref tk, .int hd])), (ro, .inr (1, [.ref oo, .int (nI lo)]))]) (wr := [(oo, .inl (cI, 1200, .inl fo)), (rn, .inr (1, [.ref qn, .int (nI ln)])), (qn, .inl (cI, 1200, .inl fn))]) (wo := (fun u5 : Unit => [(d, .inr (4, [.ref ro, .ref rn, .ref rm, .ref bk, .ref uw, .ref lw, .ref tk, .int hd])), (ro, .inr (1, [.ref oo, .int (nI lo)]))])) (wn := (fun u5 : Unit => [(d, .inr (4, [.ref ro, .ref rn, .ref rm, .ref bk, .ref uw, .ref lw, .ref tk, .int hd])), (ro, .inr (1, [.ref oo, .int (nI lo)])), (oo, .inl (cI, 1200, .inl fo)), (rn, .inr (1, [.ref qn, .int (nI ln)])), (qn, .inl (cI, 1200, .inl fn))])) (isC := [0, 1]) (isR := [2, 3, 4]) hP hD hS hA ⟨rfl, rfl, by decide, by decide, by decide⟩ [3, 4, 0, 1, 2] (by decide) (fun _ => rfl) [3, 4, 0, 1, 2] rfl (fun hPc hDc hFc => vx_runV (As := [.int (nI 0), .int y, .long v]) (rest := []) ⟨hx, hb, hml, hown, ht⟩ (x_X4_put_0 Ll hlst D cI cL d ro rn rm bk uw lw tk hd oo lo y v (Classical.not_not.mp hi) H.size) ⟨(callB_of 3 ht g_X4_put rfl rfl rfl (ht _ iw_30) (ht _ iw_261) hd_X4_put ⟨Nat.le_of_ble_eq_true rfl, Nat.le_of_ble_eq_true rfl⟩), (ht _ iw_262), (ht _ iw_263)⟩ (ds_pVX hPc hDc hK hZ hS hFc (q0 := 0) rfl rfl) rfl rfl hl.1 rfl (lv_room (Nat.le_of_ble_eq_true rfl)) dL_put_4 ⟨Nat.le_of_ble_eq_true rfl, Nat.le_of_ble_eq_true rfl⟩) (fun E9 ce9 q9 H locs hpx hP hS h9 hn9 hc9 => ?_) (fun u5 H locs hp6 hP hD hS => ?_)
        ·
          have hP : va_P D vwCl [(d, .inr (4, [.ref ro, .ref rn, .ref rm, .ref bk, .ref uw, .ref lw, .ref tk, .int hd])), (ro, .inr (1, [.ref oo, .int (nI lo)])), (oo, .inl (cI, 1200, .inl fo)), (rn, .inr (1, [.ref qn, .int (nI ln)])), (qn, .inl (cI, 1200, .inl fn))] H := hP
          subst hpx
          refine vx_catch (own := RL) (name := "java/lang/IndexOutOfBoundsException") hown [⟨0, 7, 10, 13⟩] ⟨0, 7, 14, 19⟩ [] (by rw [htab]; rfl) (fun z hz => by obtain rfl := List.mem_singleton.mp hz; exact Or.inr ⟨by decide, "java/lang/IllegalArgumentException", ht _ iw_377, hK.2.2.2⟩) (by decide) (by decide) (ht _ iw_378) (ncu_1 hK) h9 hn9 hc9 ?_
          refine lv_astore (lv' := [(5, .ref q9), (0, .ref d), (1, .int (nI 0)), (2, .int y), (3, .long v)]) hx hb dL_put_14 hl (Nat.le_of_ble_eq_true rfl) rfl (fun ls hl => ?_)
          refine lv_iconst (v := nI 2) hx hb dL_put_16 (by decide +kernel) ?_
          exact ds_iret hx hb hr hlk rfl (lo, fo, ln, fn) ⟨(e_put_x hro (by rw [rsel_0]; exact hi)).symm, (n_put_x (t := (lo, fo, ln, fn)) (fun z9 => absurd (z9.symm.trans (e_put_x hro (by rw [rsel_0]; exact hi))) (by decide))).symm⟩ hP hD hS (Nat.le_of_ble_eq_true rfl) (Nat.le_of_ble_eq_true rfl) dL_put_17
        ·
          exact False.elim hp6
    ·
      have hl : lv_has ls 6 [(0, .ref d), (1, .int (nI 1)), (2, .int y), (3, .long v)] := hl
      by_cases hi : iok y ln
      ·
        obtain ⟨q, hq, e9⟩ := iok_nat (by omega) hi
        subst e9
        have hl : lv_has ls 6 [(0, .ref d), (1, .int (nI 1)), (2, .int (nI q)), (3, .long v)] := hl
        refine lv_aload_n hx hb dL_put_0 rfl (lv_at hl 0 rfl) ?_
        refine lv_iload_n hx hb dL_put_1 rfl (lv_at hl 1 rfl) ?_
        refine lv_iload_n hx hb dL_put_2 rfl (lv_at hl 2 rfl) ?_
        refine lv_lload_n hx hb dL_put_3 rfl (lv_at hl 3 rfl) ?_
        refine ds_callv (wc := [(d, .inr (4, [.ref ro, .ref rn, .ref rm, .ref bk, .ref uw, .ref lw, .ref tk, .int hd])), (rn, .inr (1, [.ref qn, .int (nI ln)])), (qn, .inl (cI, 1200, .inl fn))]) (wr := [(ro, .inr (1, [.ref oo, .int (nI lo)])), (oo, .inl (cI, 1200, .inl fo))]) (wo := (fun u8 : Unit => [(d, .inr (4, [.ref ro, .ref rn, .ref rm, .ref bk, .ref uw, .ref lw, .ref tk, .int hd])), (rn, .inr (1, [.ref qn, .int (nI ln)])), (qn, .inl (cI, 1200, .inl (wr fn q v (min 8 (ln - q)))))])) (wn := (fun u8 : Unit => [(d, .inr (4, [.ref ro, .ref rn, .ref rm, .ref bk, .ref uw, .ref lw, .ref tk, .int hd])), (ro, .inr (1, [.ref oo, .int (nI lo)])), (oo, .inl (cI, 1200, .inl fo)), (rn, .inr (1, [.ref qn, .int (nI ln)])), (qn, .inl (cI, 1200, .inl (wr fn q v (min 8 (ln - q)))))])) (isC := [0, 3, 4]) (isR := [1, 2]) hP hD hS hA ⟨rfl, rfl, by decide, by decide, by decide⟩ [2, 0, 1, 3, 4] (by decide) (fun _ => rfl) (fun hPc hDc => va_runV (As := [.int (nI 1), .int (nI q), .long v]) (rest := []) ⟨hx, hb, hml, hown, ht⟩ (c_X4_put1 Ll D cI cL d ro rn rm bk uw lw tk hd qn ln fn q v (by omega) (by omega) H.size) ⟨(callB_of 3 ht g_X4_put rfl rfl rfl (ht _ iw_30) (ht _ iw_261) hd_X4_put ⟨Nat.le_of_ble_eq_true rfl, Nat.le_of_ble_eq_true rfl⟩), (ht _ iw_262), (ht _ iw_263)⟩ (ds_pV hPc hDc hK (q0 := 0) rfl rfl) rfl rfl hl.1 rfl (lv_room (Nat.le_of_ble_eq_true rfl)) dL_put_4 ⟨Nat.le_of_ble_eq_true rfl, Nat.le_of_ble_eq_true rfl⟩) (fun u8 H locs hp9 hP hD hS => ?_)
        have hP : va_P D vwCl [(d, .inr (4, [.ref ro, .ref rn, .ref rm, .ref bk, .ref uw, .ref lw, .ref tk, .int hd])), (ro, .inr (1, [.ref oo, .int (nI lo)])), (oo, .inl (cI, 1200, .inl fo)), (rn, .inr (1, [.ref qn, .int (nI ln)])), (qn, .inl (cI, 1200, .inl (wr fn q v (min 8 (ln - q)))))] H := hP
        have hD : va_D A [(d, .inr (4, [.ref ro, .ref rn, .ref rm, .ref bk, .ref uw, .ref lw, .ref tk, .int hd])), (ro, .inr (1, [.ref oo, .int (nI lo)])), (oo, .inl (cI, 1200, .inl fo)), (rn, .inr (1, [.ref qn, .int (nI ln)])), (qn, .inl (cI, 1200, .inl (wr fn q v (min 8 (ln - q)))))] := hD
        have hp9 : True := hp9
        refine lv_goto (tgt := 18) hx hb dL_put_7 (by decide) ?_
        refine lv_iconst (v := nI 0) hx hb dL_put_18 (by decide +kernel) ?_
        exact ds_iret hx hb hr hlk rfl (lo, fo, ln, wr fn q v (min 8 (ln - q))) ⟨(e_put_ok hro (by rw [rsel_1]; exact iok_of hq (by omega))).symm, (n_put_1 (by omega) hq).symm⟩ hP hD hS (Nat.le_of_ble_eq_true rfl) (Nat.le_of_ble_eq_true rfl) dL_put_19
      ·
        refine lv_aload_n hx hb dL_put_0 rfl (lv_at hl 0 rfl) ?_
        refine lv_iload_n hx hb dL_put_1 rfl (lv_at hl 1 rfl) ?_
        refine lv_iload_n hx hb dL_put_2 rfl (lv_at hl 2 rfl) ?_
        refine lv_lload_n hx hb dL_put_3 rfl (lv_at hl 3 rfl) ?_
        refine ds_callXv (wc := [(d, .inr (4, [.ref ro, .ref rn, .ref rm, .ref bk, .ref uw, .ref lw, .ref tk, .int hd])), (rn, .inr (1, [.ref qn, .int (nI ln)]))]) (wr := [(ro, .inr (1, [.ref oo, .int (nI lo)])), (oo, .inl (cI, 1200, .inl fo)), (qn, .inl (cI, 1200, .inl fn))]) (wo := (fun u11 : Unit => [(d, .inr (4, [.ref ro, .ref rn, .ref rm, .ref bk, .ref uw, .ref lw, .ref tk, .int hd])), (rn, .inr (1, [.ref qn, .int (nI ln)]))])) (wn := (fun u11 : Unit => [(d, .inr (4, [.ref ro, .ref rn, .ref rm, .ref bk, .ref uw, .ref lw, .ref tk, .int hd])), (ro, .inr (1, [.ref oo, .int (nI lo)])), (oo, .inl (cI, 1200, .inl fo)), (rn, .inr (1, [.ref qn, .int (nI ln)])), (qn, .inl (cI, 1200, .inl fn))])) (isC := [0, 3]) (isR := [1, 2, 4]) hP hD hS hA ⟨rfl, rfl, by decide, by decide, by decide⟩ [3, 0, 1, 4, 2] (by decide) (fun _ => rfl) [3, 0, 1, 4, 2] rfl (fun hPc hDc hFc => vx_runV (As := [.int (nI 1), .int y, .long v]) (rest := []) ⟨hx, hb, hml, hown, ht⟩ (x_X4_put_1 Ll hlst D cI cL d ro rn rm bk uw lw tk hd qn ln y v (Classical.not_not.mp hi) H.size) ⟨(callB_of 3 ht g_X4_put rfl rfl rfl (ht _ iw_30) (ht _ iw_261) hd_X4_put ⟨Nat.le_of_ble_eq_true rfl, Nat.le_of_ble_eq_true rfl⟩), (ht _ iw_262), (ht _ iw_263)⟩ (ds_pVX hPc hDc hK hZ hS hFc (q0 := 0) rfl rfl) rfl rfl hl.1 rfl (lv_room (Nat.le_of_ble_eq_true rfl)) dL_put_4 ⟨Nat.le_of_ble_eq_true rfl, Nat.le_of_ble_eq_true rfl⟩) (fun E9 ce9 q9 H locs hpx hP hS h9 hn9 hc9 => ?_) (fun u11 H locs hp12 hP hD hS => ?_)
        ·
          have hP : va_P D vwCl [(d, .inr (4, [.ref ro, .ref rn, .ref rm, .ref bk, .ref uw, .ref lw, .ref tk, .int hd])), (ro, .inr (1, [.ref oo, .int (nI lo)])), (oo, .inl (cI, 1200, .inl fo)), (rn, .inr (1, [.ref qn, .int (nI ln)])), (qn, .inl (cI, 1200, .inl fn))] H := hP
          subst hpx
          refine vx_catch (own := RL) (name := "java/lang/IndexOutOfBoundsException") hown [⟨0, 7, 10, 13⟩] ⟨0, 7, 14, 19⟩ [] (by rw [htab]; rfl) (fun z hz => by obtain rfl := List.mem_singleton.mp hz; exact Or.inr ⟨by decide, "java/lang/IllegalArgumentException", ht _ iw_377, hK.2.2.2⟩) (by decide) (by decide) (ht _ iw_378) (ncu_1 hK) h9 hn9 hc9 ?_
          refine lv_astore (lv' := [(5, .ref q9), (0, .ref d), (1, .int (nI 1)), (2, .int y), (3, .long v)]) hx hb dL_put_14 hl (Nat.le_of_ble_eq_true rfl) rfl (fun ls hl => ?_)
          refine lv_iconst (v := nI 2) hx hb dL_put_16 (by decide +kernel) ?_
          exact ds_iret hx hb hr hlk rfl (lo, fo, ln, fn) ⟨(e_put_x hro (by rw [rsel_1]; exact hi)).symm, (n_put_x (t := (lo, fo, ln, fn)) (fun z9 => absurd (z9.symm.trans (e_put_x hro (by rw [rsel_1]; exact hi))) (by decide))).symm⟩ hP hD hS (Nat.le_of_ble_eq_true rfl) (Nat.le_of_ble_eq_true rfl) dL_put_17
        ·
          exact False.elim hp12
  ·
    refine lv_aload_n hx hb dL_put_0 rfl (lv_at hl 0 rfl) ?_
    refine lv_iload_n hx hb dL_put_1 rfl (lv_at hl 1 rfl) ?_
    refine lv_iload_n hx hb dL_put_2 rfl (lv_at hl 2 rfl) ?_
    refine lv_lload_n hx hb dL_put_3 rfl (lv_at hl 3 rfl) ?_
    refine ds_callXv (wc := [(d, .inr (4, [.ref ro, .ref rn, .ref rm, .ref bk, .ref uw, .ref lw, .ref tk, .int hd]))]) (wr := [(ro, .inr (1, [.ref oo, .int (nI lo)])), (oo, .inl (cI, 1200, .inl fo)), (rn, .inr (1, [.ref qn, .int (nI ln)])), (qn, .inl (cI, 1200, .inl fn))]) (wo := (fun u14 : Unit => [(d, .inr (4, [.ref ro, .ref rn, .ref rm, .ref bk, .ref uw, .ref lw, .ref tk, .int hd]))])) (wn := (fun u14 : Unit => [(d, .inr (4, [.ref ro, .ref rn, .ref rm, .ref bk, .ref uw, .ref lw, .ref tk, .int hd])), (ro, .inr (1, [.ref oo, .int (nI lo)])), (oo, .inl (cI, 1200, .inl fo)), (rn, .inr (1, [.ref qn, .int (nI ln)])), (qn, .inl (cI, 1200, .inl fn))])) (isC := [0]) (isR := [1, 2, 3, 4]) hP hD hS hA ⟨rfl, rfl, by decide, by decide, by decide⟩ [4, 0, 1, 2, 3] (by decide) (fun _ => rfl) [4, 0, 1, 2, 3] rfl (fun hPc hDc hFc => vx_runV (As := [.int x, .int y, .long v]) (rest := []) ⟨hx, hb, hml, hown, ht⟩ (x_X4_put_r Ll hlst D cI cL d ro rn rm bk uw lw tk hd x y v (fun z => hrk (Or.inl z)) (fun z => hrk (Or.inr z)) H.size) ⟨(callB_of 3 ht g_X4_put rfl rfl rfl (ht _ iw_30) (ht _ iw_261) hd_X4_put ⟨Nat.le_of_ble_eq_true rfl, Nat.le_of_ble_eq_true rfl⟩), (ht _ iw_262), (ht _ iw_263)⟩ (ds_pVX hPc hDc hK hZ hS hFc (q0 := 0) rfl rfl) rfl rfl hl.1 rfl (lv_room (Nat.le_of_ble_eq_true rfl)) dL_put_4 ⟨Nat.le_of_ble_eq_true rfl, Nat.le_of_ble_eq_true rfl⟩) (fun E9 ce9 q9 H locs hpx hP hS h9 hn9 hc9 => ?_) (fun u14 H locs hp15 hP hD hS => ?_)
    ·
      have hP : va_P D vwCl [(d, .inr (4, [.ref ro, .ref rn, .ref rm, .ref bk, .ref uw, .ref lw, .ref tk, .int hd])), (ro, .inr (1, [.ref oo, .int (nI lo)])), (oo, .inl (cI, 1200, .inl fo)), (rn, .inr (1, [.ref qn, .int (nI ln)])), (qn, .inl (cI, 1200, .inl fn))] H := hP
      subst hpx
      refine vx_catch (own := RL) (name := "java/lang/IllegalArgumentException") hown [] ⟨0, 7, 10, 13⟩ [⟨0, 7, 14, 19⟩] (by rw [htab]; rfl) (fun z hz => by cases hz) (by decide) (by decide) (ht _ iw_377) (ncu_0 hK) h9 hn9 hc9 ?_
      refine lv_astore (lv' := [(5, .ref q9), (0, .ref d), (1, .int x), (2, .int y), (3, .long v)]) hx hb dL_put_10 hl (Nat.le_of_ble_eq_true rfl) rfl (fun ls hl => ?_)
      refine lv_iconst (v := nI 1) hx hb dL_put_12 (by decide +kernel) ?_
      exact ds_iret hx hb hr hlk rfl (lo, fo, ln, fn) ⟨(e_put_r hrk).symm, (n_put_x (t := (lo, fo, ln, fn)) (fun z9 => absurd (z9.symm.trans (e_put_r hrk)) (by decide))).symm⟩ hP hD hS (Nat.le_of_ble_eq_true rfl) (Nat.le_of_ble_eq_true rfl) dL_put_13
    ·
      exact False.elim hp15
