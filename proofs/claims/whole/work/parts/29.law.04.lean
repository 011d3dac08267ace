set_option maxHeartbeats 4000000 in
set_option maxRecDepth 100000 in
theorem c_L_weak (Ll : Launch) (hlst : Ll.stackTraces = false) (D : va_G) (cI cL : ClassId) (d : Nat) (ro : Nat) (rn : Nat) (rm : Nat) (bk : Nat) (uw : Nat) (lw : Nat) (tk : Nat) (hd : Int32) (oo : Nat) (lo : Nat) (fo : Nat → Int32) (qn : Nat) (ln : Nat) (fn : Nat → Int32) (ou : Nat) (fx : Nat → Int64) (x : Int32) (y : Int32) (z : Int32) (h1 : lo ≤ 1200) (h2 : ln ≤ 1200) (sz : Nat) : Met Ll yL_weak wsL_weak { frames := 8, cells := 1, slots := 6, locals := 135 } (ds_PX D cI cL [.ref d, .int x, .int y, .int z, .ref ou] [(d, .inr (4, [.ref ro, .ref rn, .ref rm, .ref bk, .ref uw, .ref lw, .ref tk, .int hd])), (ro, .inr (1, [.ref oo, .int (nI lo)])), (oo, .inl (cI, 1200, .inl fo)), (rn, .inr (1, [.ref qn, .int (nI ln)])), (qn, .inl (cI, 1200, .inl fn)), (ou, .inl (cL, 1, .inr (.inl fx)))] sz) (ds_Qi D (fun (r : Int32) (u : Nat → Int64) => r = e_sum x y z lo ln ∧ (e_sum x y z lo ln = 0 → u 0 = (v_weak x y z (lo, fo, ln, fn)).toInt64)) (fun u : Nat → Int64 => [(d, .inr (4, [.ref ro, .ref rn, .ref rm, .ref bk, .ref uw, .ref lw, .ref tk, .int hd])), (ro, .inr (1, [.ref oo, .int (nI lo)])), (oo, .inl (cI, 1200, .inl fo)), (rn, .inr (1, [.ref qn, .int (nI ln)])), (qn, .inl (cI, 1200, .inl fn)), (ou, .inl (cL, 1, .inr (.inl u)))]) (va_A [(d, .inr (4, [.ref ro, .ref rn, .ref rm, .ref bk, .ref uw, .ref lw, .ref tk, .int hd])), (ro, .inr (1, [.ref oo, .int (nI lo)])), (oo, .inl (cI, 1200, .inl fo)), (rn, .inr (1, [.ref qn, .int (nI ln)])), (qn, .inl (cI, 1200, .inl fn)), (ou, .inl (cL, 1, .inr (.inl fx)))] sz)) 1 6 (va_A [(d, .inr (4, [.ref ro, .ref rn, .ref rm, .ref bk, .ref uw, .ref lw, .ref tk, .int hd])), (ro, .inr (1, [.ref oo, .int (nI lo)])), (oo, .inl (cI, 1200, .inl fo)), (rn, .inr (1, [.ref qn, .int (nI ln)])), (qn, .inl (cI, 1200, .inl fn)), (ou, .inl (cL, 1, .inr (.inl fx)))] sz) := by
  refine ds_enterW (Qf := (fun A9 => ds_Qi D (fun (r : Int32) (u : Nat → Int64) => r = e_sum x y z lo ln ∧ (e_sum x y z lo ln = 0 → u 0 = (v_weak x y z (lo, fo, ln, fn)).toInt64)) (fun u : Nat → Int64 => [(d, .inr (4, [.ref ro, .ref rn, .ref rm, .ref bk, .ref uw, .ref lw, .ref tk, .int hd])), (ro, .inr (1, [.ref oo, .int (nI lo)])), (oo, .inl (cI, 1200, .inl fo)), (rn, .inr (1, [.ref qn, .int (nI ln)])), (qn, .inl (cI, 1200, .inl fn)), (ou, .inl (cL, 1, .inr (.inl u)))]) A9)) (cc := cL_weak) (maxL := 6) (ret := (some .int)) (by decide) rfl (Nat.le_of_ble_eq_true rfl) ?_
  intro Pp Ee Ss Mm Aa Bb Me Cc hx hb hml hr ht hown hlk hnm A H locs hA hP hD hS hK hZ htab ls hl
  have hl : lv_has ls 6 [(0, .ref d), (1, .int x), (2, .int y), (3, .int z), (4, .ref ou)] := hl
  change Ss.vm.findClass RL = some Mm.cls at hown
  by_cases hrk : rok x
  ·
    have hro := hrk
    rcases hrk with rfl | rfl
    ·
      have hl : lv_has ls 6 [(0, .ref d), (1, .int (nI 0)), (2, .int y), (3, .int z), (4, .ref ou)] := hl
      by_cases hg : gok y z lo
      ·
        obtain ⟨p, k, hpk, e8, e9⟩ := gok_nat (by omega) hg
        subst e8 e9
        have hl : lv_has ls 6 [(0, .ref d), (1, .int (nI 0)), (2, .int (nI p)), (3, .int (nI k)), (4, .ref ou)] := hl
        refine lv_aload hx hb dL_weak_0 (lv_at hl 4 rfl) ?_
        refine lv_iconst (v := nI 0) hx hb dL_weak_2 (by decide +kernel) ?_
        refine lv_aload_n hx hb dL_weak_3 rfl (lv_at hl 0 rfl) ?_
        refine lv_iload_n hx hb dL_weak_4 rfl (lv_at hl 1 rfl) ?_
        refine lv_iload_n hx hb dL_weak_5 rfl (lv_at hl 2 rfl) ?_
        refine lv_iload_n hx hb dL_weak_6 rfl (lv_at hl 3 rfl) ?_
        refine ds_calli (wc := [(d, .inr (4, [.ref ro, .ref rn, .ref rm, .ref bk, .ref uw, .ref lw, .ref tk, .int hd])), (ro, .inr (1, [.ref oo, .int (nI lo)])), (oo, .inl (cI, 1200, .inl fo))]) (wr := [(rn, .inr (1, [.ref qn, .int (nI ln)])), (qn, .inl (cI, 1200, .inl fn)), (ou, .inl (cL, 1, .inr (.inl fx)))]) (wo := (fun u2 : Unit => [(d, .inr (4, [.ref ro, .ref rn, .ref rm, .ref bk, .ref uw, .ref lw, .ref tk, .int hd])), (ro, .inr (1, [.ref oo, .int (nI lo)])), (oo, .inl (cI, 1200, .inl fo))])) (wn := (fun u2 : Unit => [(d, .inr (4, [.ref ro, .ref rn, .ref rm, .ref bk, .ref uw, .ref lw, .ref tk, .int hd])), (ro, .inr (1, [.ref oo, .int (nI lo)])), (oo, .inl (cI, 1200, .inl fo)), (rn, .inr (1, [.ref qn, .int (nI ln)])), (qn, .inl (cI, 1200, .inl fn)), (ou, .inl (cL, 1, .inr (.inl fx)))])) (isC := [0, 1, 2]) (isR := [3, 4, 5]) hP hD hS hA ⟨rfl, rfl, by decide, by decide, by decide⟩ [3, 4, 5, 0, 1, 2] (by decide) (fun _ => rfl) (fun hPc hDc => va_runV (As := [.int (nI 0), .int (nI p), .int (nI k)]) (rest := [.int (nI 0), .ref ou]) ⟨hx, hb, hml, hown, ht⟩ (c_X4_weak0 Ll D cI cL d ro rn rm bk uw lw tk hd oo lo fo p k (by omega) (by omega) H.size) ⟨(callB_of 3 ht g_X4_weak rfl rfl rfl (ht _ iw_30) (ht _ iw_273) hd_X4_weak ⟨Nat.le_of_ble_eq_true rfl, Nat.le_of_ble_eq_true rfl⟩), (ht _ iw_274), (ht _ iw_275)⟩ (ds_pV hPc hDc hK (q0 := 0) rfl rfl) rfl rfl hl.1 rfl (lv_room (Nat.le_of_ble_eq_true rfl)) dL_weak_7 ⟨Nat.le_of_ble_eq_true rfl, Nat.le_of_ble_eq_true rfl⟩) (fun r1 u2 H locs hp3 hP hD hS => ?_)
        have hP : va_P D vwCl [(d, .inr (4, [.ref ro, .ref rn, .ref rm, .ref bk, .ref uw, .ref lw, .ref tk, .int hd])), (ro, .inr (1, [.ref oo, .int (nI lo)])), (oo, .inl (cI, 1200, .inl fo)), (rn, .inr (1, [.ref qn, .int (nI ln)])), (qn, .inl (cI, 1200, .inl fn)), (ou, .inl (cL, 1, .inr (.inl fx)))] H := hP
        have hD : va_D A [(d, .inr (4, [.ref ro, .ref rn, .ref rm, .ref bk, .ref uw, .ref lw, .ref tk, .int hd])), (ro, .inr (1, [.ref oo, .int (nI lo)])), (oo, .inl (cI, 1200, .inl fo)), (rn, .inr (1, [.ref qn, .int (nI ln)])), (qn, .inl (cI, 1200, .inl fn)), (ou, .inl (cL, 1, .inr (.inl fx)))] := hD
        have hp3 : r1 = su_W fo p k := hp3
        replace hp3 := Eq.symm hp3
        subst hp3
        refine lv_i2l (v := (su_W fo p k).toInt64) hx hb dL_weak_10 rfl ?_
        refine ds_last (k := 0) hx hb hK hP hD hS 5 rfl (by omega) (by omega) dL_weak_11 (fun H locs hP hD hS => ?_)
        have hP : va_P D vwCl [(d, .inr (4, [.ref ro, .ref rn, .ref rm, .ref bk, .ref uw, .ref lw, .ref tk, .int hd])), (ro, .inr (1, [.ref oo, .int (nI lo)])), (oo, .inl (cI, 1200, .inl fo)), (rn, .inr (1, [.ref qn, .int (nI ln)])), (qn, .inl (cI, 1200, .inl fn)), (ou, .inl (cL, 1, .inr (.inl (vp_updL fx 0 ((su_W fo p k).toInt64)))))] H := hP
        have hD : va_D A [(d, .inr (4, [.ref ro, .ref rn, .ref rm, .ref bk, .ref uw, .ref lw, .ref tk, .int hd])), (ro, .inr (1, [.ref oo, .int (nI lo)])), (oo, .inl (cI, 1200, .inl fo)), (rn, .inr (1, [.ref qn, .int (nI ln)])), (qn, .inl (cI, 1200, .inl fn)), (ou, .inl (cL, 1, .inr (.inl (vp_updL fx 0 ((su_W fo p k).toInt64)))))] := hD
        refine lv_goto (tgt := 23) hx hb dL_weak_12 (by decide) ?_
        refine lv_iconst (v := nI 0) hx hb dL_weak_23 (by decide +kernel) ?_
        exact ds_iret hx hb hr hlk rfl (vp_updL fx 0 (su_W fo p k).toInt64) ⟨(e_sum_ok hro (by rw [rsel_0]; exact hg)).symm, fun _ => by rw [v_weak_0 (by omega)]; exact pk_uLs⟩ hP hD hS (Nat.le_of_ble_eq_true rfl) (Nat.le_of_ble_eq_true rfl) dL_weak_24
      ·
        refine lv_aload hx hb dL_weak_0 (lv_at hl 4 rfl) ?_
        refine lv_iconst (v := nI 0) hx hb dL_weak_2 (by decide +kernel) ?_
        refine lv_aload_n hx hb dL_weak_3 rfl (lv_at hl 0 rfl) ?_
        refine lv_iload_n hx hb dL_weak_4 rfl (lv_at hl 1 rfl) ?_
        refine lv_iload_n hx hb dL_weak_5 rfl (lv_at hl 2 rfl) ?_
        refine lv_iload_n hx hb dL_weak_6 rfl (lv_at hl 3 rfl) ?_
        refine ds_callXi (wc := [(d, .inr (4, [.ref ro, .ref rn, .ref rm, .ref bk, .ref uw, .ref lw, .ref tk, .int hd])), (ro, .inr (1, [.ref oo, .int (nI lo)]))]) (wr := [(oo, .inl (cI, 1200, .inl fo)), (rn, .inr (1, [.ref qn, .int (nI ln)])), (qn, .inl (cI, 1200, .inl fn)), (ou, .inl (cL, 1, .inr (.inl fx)))]) (wo := (fun u5 : Unit => [(d, .inr (4, [.ref ro, .ref rn, .ref rm, .ref bk, .ref uw, .ref lw, .ref tk, .int hd])), (ro, .inr (1, [.ref oo, .int (nI lo)]))])) (wn := (fun u5 : Unit => [(d, .inr (4, [.ref ro, .ref rn, .ref rm, .ref bk, .ref uw, .ref lw, .ref tk, .int hd])), (ro, .inr (1, [.ref oo, .int (nI lo)])), (oo, .inl (cI, 1200, .inl fo)), (rn, .inr (1, [.ref qn, .int (nI ln)])), (qn, .inl (cI, 1200, .inl fn)), (ou, .inl (cL, 1, .inr (.inl fx)))])) (isC := [0, 1]) (isR := [2, 3, 4, 5]) hP hD hS hA ⟨rfl, rfl, by decide, by decide, by decide⟩ [4, 5, 0, 1, 2, 3] (by decide) (fun _ => rfl) [4, 5, 0, 1, 2, 3] rfl (fun hPc hDc hFc => vx_runV (As := [.int (nI 0), .int y, .int z]) (rest := [.int (nI 0), .ref ou]) ⟨hx, hb, hml, hown, ht⟩ (x_X4_weak_0 Ll hlst D cI cL d ro rn rm bk uw lw tk hd oo lo y z (Classical.not_not.mp hg) H.size) ⟨(callB_of 3 ht g_X4_weak rfl rfl rfl (ht _ iw_30) (ht _ iw_273) hd_X4_weak ⟨Nat.le_of_ble_eq_true rfl, Nat.le_of_ble_eq_true rfl⟩), (ht _ iw_274), (ht _ iw_275)⟩ (ds_pVX hPc hDc hK hZ hS hFc (q0 := 0) rfl rfl) rfl rfl hl.1 rfl (lv_room (Nat.le_of_ble_eq_true rfl)) dL_weak_7 ⟨Nat.le_of_ble_eq_true rfl, Nat.le_of_ble_eq_true rfl⟩) (fun E9 ce9 q9 H locs hpx hP hS h9 hn9 hc9 => ?_) (fun r4 u5 H locs hp6 hP hD hS => ?_)
        ·
          have hP : va_P D vwCl [(d, .inr (4, [.ref ro, .ref rn, .ref rm, .ref bk, .ref uw, .ref lw, .ref tk, .int hd])), (ro, .inr (1, [.ref oo, .int (nI lo)])), (oo, .inl (cI, 1200, .inl fo)), (rn, .inr (1, [.ref qn, .int (nI ln)])), (qn, .inl (cI, 1200, .inl fn)), (ou, .inl (cL, 1, .inr (.inl fx)))] H := hP
          subst hpx
          refine vx_catch (own := RL) (name := "java/lang/IndexOutOfBoundsException") hown [⟨0, 12, 15, 13⟩] ⟨0, 12, 19, 19⟩ [] (by rw [htab]; rfl) (fun z hz => by obtain rfl := List.mem_singleton.mp hz; exact Or.inr ⟨by decide, "java/lang/IllegalArgumentException", ht _ iw_377, hK.2.2.2⟩) (by decide) (by decide) (ht _ iw_378) (ncu_1 hK) h9 hn9 hc9 ?_
          refine lv_astore (lv' := [(5, .ref q9), (0, .ref d), (1, .int (nI 0)), (2, .int y), (3, .int z), (4, .ref ou)]) hx hb dL_weak_19 hl (Nat.le_of_ble_eq_true rfl) rfl (fun ls hl => ?_)
          refine lv_iconst (v := nI 2) hx hb dL_weak_21 (by decide +kernel) ?_
          exact ds_iret hx hb hr hlk rfl fx ⟨(e_sum_x hro (by rw [rsel_0]; exact hg)).symm, fun z9 => absurd (z9.symm.trans (e_sum_x hro (by rw [rsel_0]; exact hg))) (by decide)⟩ hP hD hS (Nat.le_of_ble_eq_true rfl) (Nat.le_of_ble_eq_true rfl) dL_weak_22
        ·
          exact False.elim hp6
    ·
      have hl : lv_has ls 6 [(0, .ref d), (1, .int (nI 1)), (2, .int y), (3, .int z), (4, .ref ou)] := hl
      by_cases hg : gok y z ln
      ·
        obtain ⟨p, k, hpk, e8, e9⟩ := gok_nat (by omega) hg
        subst e8 e9
        have hl : lv_has ls 6 [(0, .ref d), (1, .int (nI 1)), (2, .int (nI p)), (3, .int (nI k)), (4, .ref ou)] := hl
        refine lv_aload hx hb dL_weak_0 (lv_at hl 4 rfl) ?_
        refine lv_iconst (v := nI 0) hx hb dL_weak_2 (by decide +kernel) ?_
        refine lv_aload_n hx hb dL_weak_3 rfl (lv_at hl 0 rfl) ?_
        refine lv_iload_n hx hb dL_weak_4 rfl (lv_at hl 1 rfl) ?_
        refine lv_iload_n hx hb dL_weak_5 rfl (lv_at hl 2 rfl) ?_
        refine lv_iload_n hx hb dL_weak_6 rfl (lv_at hl 3 rfl) ?_
        refine ds_calli (wc := [(d, .inr (4, [.ref ro, .ref rn, .ref rm, .ref bk, .ref uw, .ref lw, .ref tk, .int hd])), (rn, .inr (1, [.ref qn, .int (nI ln)])), (qn, .inl (cI, 1200, .inl fn))]) (wr := [(ro, .inr (1, [.ref oo, .int (nI lo)])), (oo, .inl (cI, 1200, .inl fo)), (ou, .inl (cL, 1, .inr (.inl fx)))]) (wo := (fun u8 : Unit => [(d, .inr (4, [.ref ro, .ref rn, .ref rm, .ref bk, .ref uw, .ref lw, .ref tk, .int hd])), (rn, .inr (1, [.ref qn, .int (nI ln)])), (qn, .inl (cI, 1200, .inl fn))])) (wn := (fun u8 : Unit => [(d, .inr (4, [.ref ro, .ref rn, .ref rm, .ref bk, .ref uw, .ref lw, .ref tk, .int hd])), (ro, .inr (1, [.ref oo, .int (nI lo)])), (oo, .inl (cI, 1200, .inl fo)), (rn, .inr (1, [.ref qn, .int (nI ln)])), (qn, .inl (cI, 1200, .inl fn)), (ou, .inl (cL, 1, .inr (.inl fx)))])) (isC := [0, 3, 4]) (isR := [1, 2, 5]) hP hD hS hA ⟨rfl, rfl, by decide, by decide, by decide⟩ [3, 0, 1, 4, 5, 2] (by decide) (fun _ => rfl) (fun hPc hDc => va_runV (As := [.int (nI 1), .int (nI p), .int (nI k)]) (rest := [.int (nI 0), .ref ou]) ⟨hx, hb, hml, hown, ht⟩ (c_X4_weak1 Ll D cI cL d ro rn rm bk uw lw tk hd qn ln fn p k (by omega) (by omega) H.size) ⟨(callB_of 3 ht g_X4_weak rfl rfl rfl (ht _ iw_30) (ht _ iw_273) hd_X4_weak ⟨Nat.le_of_ble_eq_true rfl, Nat.le_of_ble_eq_true rfl⟩), (ht _ iw_274), (ht _ iw_275)⟩ (ds_pV hPc hDc hK (q0 := 0) rfl rfl) rfl rfl hl.1 rfl (lv_room (Nat.le_of_ble_eq_true rfl)) dL_weak_7 ⟨Nat.le_of_ble_eq_true rfl, Nat.le_of_ble_eq_true rfl⟩) (fun r7 u8 H locs hp9 hP hD hS => ?_)
        have hP : va_P D vwCl [(d, .inr (4, [.ref ro, .ref rn, .ref rm, .ref bk, .ref uw, .ref lw, .ref tk, .int hd])), (ro, .inr (1, [.ref oo, .int (nI lo)])), (oo, .inl (cI, 1200, .inl fo)), (rn, .inr (1, [.ref qn, .int (nI ln)])), (qn, .inl (cI, 1200, .inl fn)), (ou, .inl (cL, 1, .inr (.inl fx)))] H := hP
        have hD : va_D A [(d, .inr (4, [.ref ro, .ref rn, .ref rm, .ref bk, .ref uw, .ref lw, .ref tk, .int hd])), (ro, .inr (1, [.ref oo, .int (nI lo)])), (oo, .inl (cI, 1200, .inl fo)), (rn, .inr (1, [.ref qn, .int (nI ln)])), (qn, .inl (cI, 1200, .inl fn)), (ou, .inl (cL, 1, .inr (.inl fx)))] := hD
        have hp9 : r7 = su_W fn p k := hp9
        replace hp9 := Eq.symm hp9
        subst hp9
        refine lv_i2l (v := (su_W fn p k).toInt64) hx hb dL_weak_10 rfl ?_
        refine ds_last (k := 0) hx hb hK hP hD hS 5 rfl (by omega) (by omega) dL_weak_11 (fun H locs hP hD hS => ?_)
        have hP : va_P D vwCl [(d, .inr (4, [.ref ro, .ref rn, .ref rm, .ref bk, .ref uw, .ref lw, .ref tk, .int hd])), (ro, .inr (1, [.ref oo, .int (nI lo)])), (oo, .inl (cI, 1200, .inl fo)), (rn, .inr (1, [.ref qn, .int (nI ln)])), (qn, .inl (cI, 1200, .inl fn)), (ou, .inl (cL, 1, .inr (.inl (vp_updL fx 0 ((su_W fn p k).toInt64)))))] H := hP
        have hD : va_D A [(d, .inr (4, [.ref ro, .ref rn, .ref rm, .ref bk, .ref uw, .ref lw, .ref tk, .int hd])), (ro, .inr (1, [.ref oo, .int (nI lo)])), (oo, .inl (cI, 1200, .inl fo)), (rn, .inr (1, [.ref qn, .int (nI ln)])), (qn, .inl (cI, 1200, .inl fn)), (ou, .inl (cL, 1, .inr (.inl (vp_updL fx 0 ((su_W fn p k).toInt64)))))] := hD
        refine lv_goto (tgt := 23) hx hb dL_weak_12 (by decide) ?_
        refine lv_iconst (v := nI 0) hx hb dL_weak_23 (by decide +kernel) ?_
        exact ds_iret hx hb hr hlk rfl (vp_updL fx 0 (su_W fn p k).toInt64) ⟨(e_sum_ok hro (by rw [rsel_1]; exact hg)).symm, fun _ => by rw [v_weak_1 (by omega)]; exact pk_uLs⟩ hP hD hS (Nat.le_of_ble_eq_true rfl) (Nat.le_of_ble_eq_true rfl) dL_weak_24
      ·
        refine lv_aload hx hb dL_weak_0 (lv_at hl 4 rfl) ?_
        refine lv_iconst (v := nI 0) hx hb dL_weak_2 (by decide +kernel) ?_
        refine lv_aload_n hx hb dL_weak_3 rfl (lv_at hl 0 rfl) ?_
        refine lv_iload_n hx hb dL_weak_4 rfl (lv_at hl 1 rfl) ?_
        refine lv_iload_n hx hb dL_weak_5 rfl (lv_at hl 2 rfl) ?_
        refine lv_iload_n hx hb dL_weak_6 rfl (lv_at hl 3 rfl) ?_
        refine ds_callXi (wc := [(d, .inr (4, [.ref ro, .ref rn, .ref rm, .ref bk, .ref uw, .ref lw, .ref tk, .int hd])), (rn, .inr (1, [.ref qn, .int (nI ln)]))]) (wr := [(ro, .inr (1, [.ref oo, .int (nI lo)])), (oo, .inl (cI, 1200, .inl fo)), (qn, .inl (cI, 1200, .inl fn)), (ou, .inl (cL, 1, .inr (.inl fx)))]) (wo := (fun u11 : Unit => [(d, .inr (4, [.ref ro, .ref rn, .ref rm, .ref bk, .ref uw, .ref lw, .ref tk, .int hd])), (rn, .inr (1, [.ref qn, .int (nI ln)]))])) (wn := (fun u11 : Unit => [(d, .inr (4, [.ref ro, .ref rn, .ref rm, .ref bk, .ref uw, .ref lw, .ref tk, .int hd])), (ro, .inr (1, [.ref oo, .int (nI lo)])), (oo, .inl (cI, 1200, .inl fo)), (rn, .inr (1, [.ref qn, .int (nI ln)])), (qn, .inl (cI, 1200, .inl fn)), (ou, .inl (cL, 1, .inr (.inl fx)))])) (isC := [0, 3]) (isR := [1, 2, 4, 5]) hP hD hS hA ⟨rfl, rfl, by decide, by decide, by decide⟩ [4, 0, 1, 5, 2, 3] (by decide) (fun _ => rfl) [4, 0, 1, 5, 2, 3] rfl (fun hPc hDc hFc => vx_runV (As := [.int (nI 1), .int y, .int z]) (rest := [.int (nI 0), .ref ou]) ⟨hx, hb, hml, hown, ht⟩ (x_X4_weak_1 Ll hlst D cI cL d ro rn rm bk uw lw tk hd qn ln y z (Classical.not_not.mp hg) H.size) ⟨(callB_of 3 ht g_X4_weak rfl rfl rfl (ht _ iw_30) (ht _ iw_273) hd_X4_weak ⟨Nat.le_of_ble_eq_true rfl, Nat.le_of_ble_eq_true rfl⟩), (ht _ iw_274), (ht _ iw_275)⟩ (ds_pVX hPc hDc hK hZ hS hFc (q0 := 0) rfl rfl) rfl rfl hl.1 rfl (lv_room (Nat.le_of_ble_eq_true rfl)) dL_weak_7 ⟨Nat.le_of_ble_eq_true rfl, Nat.le_of_ble_eq_true rfl⟩) (fun E9 ce9 q9 H locs hpx hP hS h9 hn9 hc9 => ?_) (fun r10 u11 H locs hp12 hP hD hS => ?_)
        ·
          have hP : va_P D vwCl [(d, .inr (4, [.ref ro, .ref rn, .ref rm, .ref bk, .ref uw, .ref lw, .ref tk, .int hd])), (ro, .inr (1, [.ref oo, .int (nI lo)])), (oo, .inl (cI, 1200, .inl fo)), (rn, .inr (1, [.ref qn, .int (nI ln)])), (qn, .inl (cI, 1200, .inl fn)), (ou, .inl (cL, 1, .inr (.inl fx)))] H := hP
          subst hpx
          refine vx_catch (own := RL) (name := "java/lang/IndexOutOfBoundsException") hown [⟨0, 12, 15, 13⟩] ⟨0, 12, 19, 19⟩ [] (by rw [htab]; rfl) (fun z hz => by obtain rfl := List.mem_singleton.mp hz; exact Or.inr ⟨by decide, "java/lang/IllegalArgumentException", ht _ iw_377, hK.2.2.2⟩) (by decide) (by decide) (ht _ iw_378) (ncu_1 hK) h9 hn9 hc9 ?_
          refine lv_astore (lv' := [(5, .ref q9), (0, .ref d), (1, .int (nI 1)), (2, .int y), (3, .int z), (4, .ref ou)]) hx hb dL_weak_19 hl (Nat.le_of_ble_eq_true rfl) rfl (fun ls hl => ?_)
          refine lv_iconst (v := nI 2) hx hb dL_weak_21 (by decide +kernel) ?_
          exact ds_iret hx hb hr hlk rfl fx ⟨(e_sum_x hro (by rw [rsel_1]; exact hg)).symm, fun z9 => absurd (z9.symm.trans (e_sum_x hro (by rw [rsel_1]; exact hg))) (by decide)⟩ hP hD hS (Nat.le_of_ble_eq_true rfl) (Nat.le_of_ble_eq_true rfl) dL_weak_22
        ·
          exact False.elim hp12
  ·
    refine lv_aload hx hb dL_weak_0 (lv_at hl 4 rfl) ?_
    refine lv_iconst (v := nI 0) hx hb dL_weak_2 (by decide +kernel) ?_
    refine lv_aload_n hx hb dL_weak_3 rfl (lv_at hl 0 rfl) ?_
    refine lv_iload_n hx hb dL_weak_4 rfl (lv_at hl 1 rfl) ?_
    refine lv_iload_n hx hb dL_weak_5 rfl (lv_at hl 2 rfl) ?_
    refine lv_iload_n hx hb dL_weak_6 rfl (lv_at hl 3 rfl) ?_
    refine ds_callXi (wc := [(d, .inr (4, [.ref ro, .ref rn, .ref rm, .ref bk, .ref uw, .ref lw, .ref tk, .int hd]))]) (wr := [(ro, .inr (1, [.ref oo, .int (nI lo)])), (oo, .inl (cI, 1200, .inl fo)), (rn, .inr (1, [.ref qn, .int (nI ln)])), (qn, .inl (cI, 1200, .inl fn)), (ou, .inl (cL, 1, .inr (.inl fx)))]) (wo := (fun u14 : Unit => [(d, .inr (4, [.ref ro, .ref rn, .ref rm, .ref bk, .ref uw, .ref lw, .ref tk, .int hd]))])) (wn := (fun u14 : Unit => [(d, .inr (4, [.ref ro, .ref rn, .ref rm, .ref bk, .ref uw, .ref lw, .ref tk, .int hd])), (ro, .inr (1, [.ref oo, .int (nI lo)])), (oo, .inl (cI, 1200, .inl fo)), (rn, .inr (1, [.ref qn, .int (nI ln)])), (qn, .inl (cI, 1200, .inl fn)), (ou, .inl (cL, 1, .inr (.inl fx)))])) (isC := [0]) (isR := [1, 2, 3, 4, 5]) hP hD hS hA ⟨rfl, rfl, by decide, by decide, by decide⟩ [5, 0, 1, 2, 3, 4] (by decide) (fun _ => rfl) [5, 0, 1, 2, 3, 4] rfl (fun hPc hDc hFc => vx_runV (As := [.int x, .int y, .int z]) (rest := [.int (nI 0), .ref ou]) ⟨hx, hb, hml, hown, ht⟩ (x_X4_weak_r Ll hlst D cI cL d ro rn rm bk uw lw tk hd x y z (fun z => hrk (Or.inl z)) (fun z => hrk (Or.inr z)) H.size) ⟨(callB_of 3 ht g_X4_weak rfl rfl rfl (ht _ iw_30) (ht _ iw_273) hd_X4_weak ⟨Nat.le_of_ble_eq_true rfl, Nat.le_of_ble_eq_true rfl⟩), (ht _ iw_274), (ht _ iw_275)⟩ (ds_pVX hPc hDc hK hZ hS hFc (q0 := 0) rfl rfl) rfl rfl hl.1 rfl (lv_room (Nat.le_of_ble_eq_true rfl)) dL_weak_7 ⟨Nat.le_of_ble_eq_true rfl, Nat.le_of_ble_eq_true rfl⟩) (fun E9 ce9 q9 H locs hpx hP hS h9 hn9 hc9 => ?_) (fun r13 u14 H locs hp15 hP hD hS => ?_)
    ·
      have hP : va_P D vwCl [(d, .inr (4, [.ref ro, .ref rn, .ref rm, .ref bk, .ref uw, .ref lw, .ref tk, .int hd])), (ro, .inr (1, [.ref oo, .int (nI lo)])), (oo, .inl (cI, 1200, .inl fo)), (rn, .inr (1, [.ref qn, .int (nI ln)])), (qn, .inl (cI, 1200, .inl fn)), (ou, .inl (cL, 1, .inr (.inl fx)))] H := hP
      subst hpx
      refine vx_catch (own := RL) (name := "java/lang/IllegalArgumentException") hown [] ⟨0, 12, 15, 13⟩ [⟨0, 12, 19, 19⟩] (by rw [htab]; rfl) (fun z hz => by cases hz) (by decide) (by decide) (ht _ iw_377) (ncu_0 hK) h9 hn9 hc9 ?_
      refine lv_astore (lv' := [(5, .ref q9), (0, .ref d), (1, .int x), (2, .int y), (3, .int z), (4, .ref ou)]) hx hb dL_weak_15 hl (Nat.le_of_ble_eq_true rfl) rfl (fun ls hl => ?_)
      refine lv_iconst (v := nI 1) hx hb dL_weak_17 (by decide +kernel) ?_
      exact ds_iret hx hb hr hlk rfl fx ⟨(e_sum_r hrk).symm, fun z9 => absurd (z9.symm.trans (e_sum_r hrk)) (by decide)⟩ hP hD hS (Nat.le_of_ble_eq_true rfl) (Nat.le_of_ble_eq_true rfl) dL_weak_18
    ·
      exact False.elim hp15
