set_option maxHeartbeats 4000000 in
set_option maxRecDepth 100000 in
theorem c_L_move (Ll : Launch) (hlst : Ll.stackTraces = false) (D : va_G) (cI cL : ClassId) (d : Nat) (ro : Nat) (rn : Nat) (rm : Nat) (bk : Nat) (uw : Nat) (lw : Nat) (tk : Nat) (hd : Int32) (oo : Nat) (lo : Nat) (fo : Nat → Int32) (qn : Nat) (ln : Nat) (fn : Nat → Int32) (x : Int32) (y : Int32) (z : Int32) (v : Int32) (w : Int32) (h1 : lo ≤ 1200) (h2 : ln ≤ 1200) (sz : Nat) : Met Ll yL_move wsL_move { frames := 8, cells := 1, slots := 6, locals := 137 } (ds_PX D cI cL [.ref d, .int x, .int y, .int z, .int v, .int w] [(d, .inr (4, [.ref ro, .ref rn, .ref rm, .ref bk, .ref uw, .ref lw, .ref tk, .int hd])), (ro, .inr (1, [.ref oo, .int (nI lo)])), (oo, .inl (cI, 1200, .inl fo)), (rn, .inr (1, [.ref qn, .int (nI ln)])), (qn, .inl (cI, 1200, .inl fn))] sz) (ds_Qi D (fun (r : Int32) (u : rw_T) => r = e_move x y z v w lo ln ∧ u = n_move x y z v w (lo, fo, ln, fn)) (fun u : rw_T => [(d, .inr (4, [.ref ro, .ref rn, .ref rm, .ref bk, .ref uw, .ref lw, .ref tk, .int hd])), (ro, .inr (1, [.ref oo, .int (nI u.1)])), (oo, .inl (cI, 1200, .inl u.2.1)), (rn, .inr (1, [.ref qn, .int (nI u.2.2.1)])), (qn, .inl (cI, 1200, .inl u.2.2.2))]) (va_A [(d, .inr (4, [.ref ro, .ref rn, .ref rm, .ref bk, .ref uw, .ref lw, .ref tk, .int hd])), (ro, .inr (1, [.ref oo, .int (nI lo)])), (oo, .inl (cI, 1200, .inl fo)), (rn, .inr (1, [.ref qn, .int (nI ln)])), (qn, .inl (cI, 1200, .inl fn))] sz)) 1 6 (va_A [(d, .inr (4, [.ref ro, .ref rn, .ref rm, .ref bk, .ref uw, .ref lw, .ref tk, .int hd])), (ro, .inr (1, [.ref oo, .int (nI lo)])), (oo, .inl (cI, 1200, .inl fo)), (rn, .inr (1, [.ref qn, .int (nI ln)])), (qn, .inl (cI, 1200, .inl fn))] sz) := by
  refine ds_enterW (Qf := (fun A9 => ds_Qi D (fun (r : Int32) (u : rw_T) => r = e_move x y z v w lo ln ∧ u = n_move x y z v w (lo, fo, ln, fn)) (fun u : rw_T => [(d, .inr (4, [.ref ro, .ref rn, .ref rm, .ref bk, .ref uw, .ref lw, .ref tk, .int hd])), (ro, .inr (1, [.ref oo, .int (nI u.1)])), (oo, .inl (cI, 1200, .inl u.2.1)), (rn, .inr (1, [.ref qn, .int (nI u.2.2.1)])), (qn, .inl (cI, 1200, .inl u.2.2.2))]) A9)) (cc := cL_move) (maxL := 7) (ret := (some .int)) (by decide) rfl (Nat.le_of_ble_eq_true rfl) ?_
  intro Pp Ee Ss Mm Aa Bb Me Cc hx hb hml hr ht hown hlk hnm A H locs hA hP hD hS hK hZ htab ls hl
  have hl : lv_has ls 7 [(0, .ref d), (1, .int x), (2, .int y), (3, .int z), (4, .int v), (5, .int w)] := hl
  change Ss.vm.findClass RL = some Mm.cls at hown
  by_cases hrk : rok x
  ·
    have hro := hrk
    rcases hrk with rfl | rfl
    ·
      have hl : lv_has ls 7 [(0, .ref d), (1, .int (nI 0)), (2, .int y), (3, .int z), (4, .int v), (5, .int w)] := hl
      by_cases hr2 : rok z
      ·
        have hro2 := hr2
        rcases hr2 with rfl | rfl
        ·
          have hl : lv_has ls 7 [(0, .ref d), (1, .int (nI 0)), (2, .int y), (3, .int (nI 0)), (4, .int v), (5, .int w)] := hl
          by_cases hg : gok y w lo
          ·
            obtain ⟨p, m, hpm, e8, e9⟩ := gok_nat (by omega) hg
            subst e8 e9
            have hl : lv_has ls 7 [(0, .ref d), (1, .int (nI 0)), (2, .int (nI p)), (3, .int (nI 0)), (4, .int v), (5, .int (nI m))] := hl
            by_cases hg2 : gok v (nI m) lo
            ·
              obtain ⟨q, m9, hqm, e8, e9⟩ := gok_nat (by omega) hg2
              have e7 : m9 = m := by
                have h31 : m9 < 2 ^ 31 := by omega
                exact ((nI_eq h31 (by omega)).mp e9.symm)
              subst e7 e8
              have hl : lv_has ls 7 [(0, .ref d), (1, .int (nI 0)), (2, .int (nI p)), (3, .int (nI 0)), (4, .int (nI q)), (5, .int (nI m9))] := hl
              refine lv_aload_n hx hb dL_move_0 rfl (lv_at hl 0 rfl) ?_
              refine lv_iload_n hx hb dL_move_1 rfl (lv_at hl 1 rfl) ?_
              refine lv_iload_n hx hb dL_move_2 rfl (lv_at hl 2 rfl) ?_
              refine lv_iload_n hx hb dL_move_3 rfl (lv_at hl 3 rfl) ?_
              refine lv_iload hx hb dL_move_4 (lv_at hl 4 rfl) ?_
              refine lv_iload hx hb dL_move_6 (lv_at hl 5 rfl) ?_
              refine ds_callv (wc := [(d, .inr (4, [.ref ro, .ref rn, .ref rm, .ref bk, .ref uw, .ref lw, .ref tk, .int hd])), (ro, .inr (1, [.ref oo, .int (nI lo)])), (oo, .inl (cI, 1200, .inl fo)), (rn, .inr (1, [.ref qn, .int (nI ln)])), (qn, .inl (cI, 1200, .inl fn))]) (wr := []) (wo := (fun u2 : Unit => [(d, .inr (4, [.ref ro, .ref rn, .ref rm, .ref bk, .ref uw, .ref lw, .ref tk, .int hd])), (ro, .inr (1, [.ref oo, .int (nI lo)])), (oo, .inl (cI, 1200, .inl (va_cpy fo fo p q m9))), (rn, .inr (1, [.ref qn, .int (nI ln)])), (qn, .inl (cI, 1200, .inl fn))])) (wn := (fun u2 : Unit => [(d, .inr (4, [.ref ro, .ref rn, .ref rm, .ref bk, .ref uw, .ref lw, .ref tk, .int hd])), (ro, .inr (1, [.ref oo, .int (nI lo)])), (oo, .inl (cI, 1200, .inl (va_cpy fo fo p q m9))), (rn, .inr (1, [.ref qn, .int (nI ln)])), (qn, .inl (cI, 1200, .inl fn))])) (isC := [0, 1, 2, 3, 4]) (isR := []) hP hD hS hA ⟨rfl, rfl, by decide, by decide, by decide⟩ [0, 1, 2, 3, 4] (by decide) (fun _ => rfl) (fun hPc hDc => va_runV (As := [.int (nI 0), .int (nI p), .int (nI 0), .int (nI q), .int (nI m9)]) (rest := []) ⟨hx, hb, hml, hown, ht⟩ (c_X4_move00 Ll D cI cL d ro rn rm bk uw lw tk hd oo lo fo qn ln fn p q m9 h1 h2 hpm hqm H.size) ⟨(callB_of 5 ht g_X4_move rfl rfl rfl (ht _ iw_30) (ht _ iw_265) hd_X4_move ⟨Nat.le_of_ble_eq_true rfl, Nat.le_of_ble_eq_true rfl⟩), (ht _ iw_266), (ht _ iw_267)⟩ (ds_pV hPc hDc hK (q0 := 0) rfl rfl) rfl rfl hl.1 rfl (lv_room (Nat.le_of_ble_eq_true rfl)) dL_move_8 ⟨Nat.le_of_ble_eq_true rfl, Nat.le_of_ble_eq_true rfl⟩) (fun u2 H locs hp3 hP hD hS => ?_)
              have hP : va_P D vwCl [(d, .inr (4, [.ref ro, .ref rn, .ref rm, .ref bk, .ref uw, .ref lw, .ref tk, .int hd])), (ro, .inr (1, [.ref oo, .int (nI lo)])), (oo, .inl (cI, 1200, .inl (va_cpy fo fo p q m9))), (rn, .inr (1, [.ref qn, .int (nI ln)])), (qn, .inl (cI, 1200, .inl fn))] H := hP
              have hD : va_D A [(d, .inr (4, [.ref ro, .ref rn, .ref rm, .ref bk, .ref uw, .ref lw, .ref tk, .int hd])), (ro, .inr (1, [.ref oo, .int (nI lo)])), (oo, .inl (cI, 1200, .inl (va_cpy fo fo p q m9))), (rn, .inr (1, [.ref qn, .int (nI ln)])), (qn, .inl (cI, 1200, .inl fn))] := hD
              have hp3 : True := hp3
              refine lv_goto (tgt := 22) hx hb dL_move_11 (by decide) ?_
              refine lv_iconst (v := nI 0) hx hb dL_move_22 (by decide +kernel) ?_
              exact ds_iret hx hb hr hlk rfl (lo, va_cpy fo fo p q m9, ln, fn) ⟨(n_move_ok0 (fo := fo) (fn := fn) h1 h2 hro (by rw [rsel_0]; exact hpm) hqm).2.symm, by rw [(n_move_ok0 (fo := fo) (fn := fn) h1 h2 hro (by rw [rsel_0]; exact hpm) hqm).1, rsel_0]⟩ hP hD hS (Nat.le_of_ble_eq_true rfl) (Nat.le_of_ble_eq_true rfl) dL_move_23
            ·
              refine lv_aload_n hx hb dL_move_0 rfl (lv_at hl 0 rfl) ?_
              refine lv_iload_n hx hb dL_move_1 rfl (lv_at hl 1 rfl) ?_
              refine lv_iload_n hx hb dL_move_2 rfl (lv_at hl 2 rfl) ?_
              refine lv_iload_n hx hb dL_move_3 rfl (lv_at hl 3 rfl) ?_
              refine lv_iload hx hb dL_move_4 (lv_at hl 4 rfl) ?_
              refine lv_iload hx hb dL_move_6 (lv_at hl 5 rfl) ?_
              refine ds_callXv (wc := [(d, .inr (4, [.ref ro, .ref rn, .ref rm, .ref bk, .ref uw, .ref lw, .ref tk, .int hd])), (ro, .inr (1, [.ref oo, .int (nI lo)])), (rn, .inr (1, [.ref qn, .int (nI ln)]))]) (wr := [(oo, .inl (cI, 1200, .inl fo)), (qn, .inl (cI, 1200, .inl fn))]) (wo := (fun u5 : Unit => [(d, .inr (4, [.ref ro, .ref rn, .ref rm, .ref bk, .ref uw, .ref lw, .ref tk, .int hd])), (ro, .inr (1, [.ref oo, .int (nI lo)])), (rn, .inr (1, [.ref qn, .int (nI ln)]))])) (wn := (fun u5 : Unit => [(d, .inr (4, [.ref ro, .ref rn, .ref rm, .ref bk, .ref uw, .ref lw, .ref tk, .int hd])), (ro, .inr (1, [.ref oo, .int (nI lo)])), (oo, .inl (cI, 1200, .inl fo)), (rn, .inr (1, [.ref qn, .int (nI ln)])), (qn, .inl (cI, 1200, .inl fn))])) (isC := [0, 1, 3]) (isR := [2, 4]) hP hD hS hA ⟨rfl, rfl, by decide, by decide, by decide⟩ [2, 3, 0, 4, 1] (by decide) (fun _ => rfl) [2, 3, 0, 4, 1] rfl (fun hPc hDc hFc => vx_runV (As := [.int (nI 0), .int (nI p), .int (nI 0), .int v, .int (nI m)]) (rest := []) ⟨hx, hb, hml, hown, ht⟩ (x_X4_move_00b Ll hlst D cI cL d ro rn rm bk uw lw tk hd oo lo qn ln p m v (by omega) hpm (Classical.not_not.mp hg2) H.size) ⟨(callB_of 5 ht g_X4_move rfl rfl rfl (ht _ iw_30) (ht _ iw_265) hd_X4_move ⟨Nat.le_of_ble_eq_true rfl, Nat.le_of_ble_eq_true rfl⟩), (ht _ iw_266), (ht _ iw_267)⟩ (ds_pVX hPc hDc hK hZ hS hFc (q0 := 0) rfl rfl) rfl rfl hl.1 rfl (lv_room (Nat.le_of_ble_eq_true rfl)) dL_move_8 ⟨Nat.le_of_ble_eq_true rfl, Nat.le_of_ble_eq_true rfl⟩) (fun E9 ce9 q9 H locs hpx hP hS h9 hn9 hc9 => ?_) (fun u5 H locs hp6 hP hD hS => ?_)
              ·
                have hP : va_P D vwCl [(d, .inr (4, [.ref ro, .ref rn, .ref rm, .ref bk, .ref uw, .ref lw, .ref tk, .int hd])), (ro, .inr (1, [.ref oo, .int (nI lo)])), (oo, .inl (cI, 1200, .inl fo)), (rn, .inr (1, [.ref qn, .int (nI ln)])), (qn, .inl (cI, 1200, .inl fn))] H := hP
                subst hpx
                refine vx_catch (own := RL) (name := "java/lang/IndexOutOfBoundsException") hown [⟨0, 11, 14, 13⟩] ⟨0, 11, 18, 19⟩ [] (by rw [htab]; rfl) (fun z hz => by obtain rfl := List.mem_singleton.mp hz; exact Or.inr ⟨by decide, "java/lang/IllegalArgumentException", ht _ iw_377, hK.2.2.2⟩) (by decide) (by decide) (ht _ iw_378) (ncu_1 hK) h9 hn9 hc9 ?_
                refine lv_astore (lv' := [(6, .ref q9), (0, .ref d), (1, .int (nI 0)), (2, .int (nI p)), (3, .int (nI 0)), (4, .int v), (5, .int (nI m))]) hx hb dL_move_18 hl (Nat.le_of_ble_eq_true rfl) rfl (fun ls hl => ?_)
                refine lv_iconst (v := nI 2) hx hb dL_move_20 (by decide +kernel) ?_
                exact ds_iret hx hb hr hlk rfl (lo, fo, ln, fn) ⟨(e_move_x ⟨hro, hro2⟩ (by rw [rsel_0]; exact fun z9 => hg2 z9.2)).symm, (n_move_x (t := (lo, fo, ln, fn)) (fun z9 => absurd (z9.symm.trans (e_move_x ⟨hro, hro2⟩ (by rw [rsel_0]; exact fun z9 => hg2 z9.2))) (by decide))).symm⟩ hP hD hS (Nat.le_of_ble_eq_true rfl) (Nat.le_of_ble_eq_true rfl) dL_move_21
              ·
                exact False.elim hp6
          ·
            refine lv_aload_n hx hb dL_move_0 rfl (lv_at hl 0 rfl) ?_
            refine lv_iload_n hx hb dL_move_1 rfl (lv_at hl 1 rfl) ?_
            refine lv_iload_n hx hb dL_move_2 rfl (lv_at hl 2 rfl) ?_
            refine lv_iload_n hx hb dL_move_3 rfl (lv_at hl 3 rfl) ?_
            refine lv_iload hx hb dL_move_4 (lv_at hl 4 rfl) ?_
            refine lv_iload hx hb dL_move_6 (lv_at hl 5 rfl) ?_
            refine ds_callXv (wc := [(d, .inr (4, [.ref ro, .ref rn, .ref rm, .ref bk, .ref uw, .ref lw, .ref tk, .int hd])), (ro, .inr (1, [.ref oo, .int (nI lo)])), (rn, .inr (1, [.ref qn, .int (nI ln)]))]) (wr := [(oo, .inl (cI, 1200, .inl fo)), (qn, .inl (cI, 1200, .inl fn))]) (wo := (fun u8 : Unit => [(d, .inr (4, [.ref ro, .ref rn, .ref rm, .ref bk, .ref uw, .ref lw, .ref tk, .int hd])), (ro, .inr (1, [.ref oo, .int (nI lo)])), (rn, .inr (1, [.ref qn, .int (nI ln)]))])) (wn := (fun u8 : Unit => [(d, .inr (4, [.ref ro, .ref rn, .ref rm, .ref bk, .ref uw, .ref lw, .ref tk, .int hd])), (ro, .inr (1, [.ref oo, .int (nI lo)])), (oo, .inl (cI, 1200, .inl fo)), (rn, .inr (1, [.ref qn, .int (nI ln)])), (qn, .inl (cI, 1200, .inl fn))])) (isC := [0, 1, 3]) (isR := [2, 4]) hP hD hS hA ⟨rfl, rfl, by decide, by decide, by decide⟩ [2, 3, 0, 4, 1] (by decide) (fun _ => rfl) [2, 3, 0, 4, 1] rfl (fun hPc hDc hFc => vx_runV (As := [.int (nI 0), .int y, .int (nI 0), .int v, .int w]) (rest := []) ⟨hx, hb, hml, hown, ht⟩ (x_X4_move_00a Ll hlst D cI cL d ro rn rm bk uw lw tk hd oo lo qn ln y v w (Classical.not_not.mp hg) H.size) ⟨(callB_of 5 ht g_X4_move rfl rfl rfl (ht _ iw_30) (ht _ iw_265) hd_X4_move ⟨Nat.le_of_ble_eq_true rfl, Nat.le_of_ble_eq_true rfl⟩), (ht _ iw_266), (ht _ iw_267)⟩ (ds_pVX hPc hDc hK hZ hS hFc (q0 := 0) rfl rfl) rfl rfl hl.1 rfl (lv_room (Nat.le_of_ble_eq_true rfl)) dL_move_8 ⟨Nat.le_of_ble_eq_true rfl, Nat.le_of_ble_eq_true rfl⟩) (fun E9 ce9 q9 H locs hpx hP hS h9 hn9 hc9 => ?_) (fun u8 H locs hp9 hP hD hS => ?_)
            ·
              have hP : va_P D vwCl [(d, .inr (4, [.ref ro, .ref rn, .ref rm, .ref bk, .ref uw, .ref lw, .ref tk, .int hd])), (ro, .inr (1, [.ref oo, .int (nI lo)])), (oo, .inl (cI, 1200, .inl fo)), (rn, .inr (1, [.ref qn, .int (nI ln)])), (qn, .inl (cI, 1200, .inl fn))] H := hP
              subst hpx
              refine vx_catch (own := RL) (name := "java/lang/IndexOutOfBoundsException") hown [⟨0, 11, 14, 13⟩] ⟨0, 11, 18, 19⟩ [] (by rw [htab]; rfl) (fun z hz => by obtain rfl := List.mem_singleton.mp hz; exact Or.inr ⟨by decide, "java/lang/IllegalArgumentException", ht _ iw_377, hK.2.2.2⟩) (by decide) (by decide) (ht _ iw_378) (ncu_1 hK) h9 hn9 hc9 ?_
              refine lv_astore (lv' := [(6, .ref q9), (0, .ref d), (1, .int (nI 0)), (2, .int y), (3, .int (nI 0)), (4, .int v), (5, .int w)]) hx hb dL_move_18 hl (Nat.le_of_ble_eq_true rfl) rfl (fun ls hl => ?_)
              refine lv_iconst (v := nI 2) hx hb dL_move_20 (by decide +kernel) ?_
              exact ds_iret hx hb hr hlk rfl (lo, fo, ln, fn) ⟨(e_move_x ⟨hro, hro2⟩ (by rw [rsel_0]; exact fun z9 => hg z9.1)).symm, (n_move_x (t := (lo, fo, ln, fn)) (fun z9 => absurd (z9.symm.trans (e_move_x ⟨hro, hro2⟩ (by rw [rsel_0]; exact fun z9 => hg z9.1))) (by decide))).symm⟩ hP hD hS (Nat.le_of_ble_eq_true rfl) (Nat.le_of_ble_eq_true rfl) dL_move_21
            ·
              exact False.elim hp9
        ·
          have hl : lv_has ls 7 [(0, .ref d), (1, .int (nI 0)), (2, .int y), (3, .int (nI 1)), (4, .int v), (5, .int w)] := hl
          by_cases hg : gok y w lo
          ·
            obtain ⟨p, m, hpm, e8, e9⟩ := gok_nat (by omega) hg
            subst e8 e9
            have hl : lv_has ls 7 [(0, .ref d), (1, .int (nI 0)), (2, .int (nI p)), (3, .int (nI 1)), (4, .int v), (5, .int (nI m))] := hl
            by_cases hg2 : gok v (nI m) ln
            ·
              obtain ⟨q, m9, hqm, e8, e9⟩ := gok_nat (by omega) hg2
              have e7 : m9 = m := by
                have h31 : m9 < 2 ^ 31 := by omega
                exact ((nI_eq h31 (by omega)).mp e9.symm)
              subst e7 e8
              have hl : lv_has ls 7 [(0, .ref d), (1, .int (nI 0)), (2, .int (nI p)), (3, .int (nI 1)), (4, .int (nI q)), (5, .int (nI m9))] := hl
              refine lv_aload_n hx hb dL_move_0 rfl (lv_at hl 0 rfl) ?_
              refine lv_iload_n hx hb dL_move_1 rfl (lv_at hl 1 rfl) ?_
              refine lv_iload_n hx hb dL_move_2 rfl (lv_at hl 2 rfl) ?_
              refine lv_iload_n hx hb dL_move_3 rfl (lv_at hl 3 rfl) ?_
              refine lv_iload hx hb dL_move_4 (lv_at hl 4 rfl) ?_
              refine lv_iload hx hb dL_move_6 (lv_at hl 5 rfl) ?_
              refine ds_callv (wc := [(d, .inr (4, [.ref ro, .ref rn, .ref rm, .ref bk, .ref uw, .ref lw, .ref tk, .int hd])), (ro, .inr (1, [.ref oo, .int (nI lo)])), (oo, .inl (cI, 1200, .inl fo)), (rn, .inr (1, [.ref qn, .int (nI ln)])), (qn, .inl (cI, 1200, .inl fn))]) (wr := []) (wo := (fun u11 : Unit => [(d, .inr (4, [.ref ro, .ref rn, .ref rm, .ref bk, .ref uw, .ref lw, .ref tk, .int hd])), (ro, .inr (1, [.ref oo, .int (nI lo)])), (oo, .inl (cI, 1200, .inl fo)), (rn, .inr (1, [.ref qn, .int (nI ln)])), (qn, .inl (cI, 1200, .inl (va_cpy fo fn p q m9)))])) (wn := (fun u11 : Unit => [(d, .inr (4, [.ref ro, .ref rn, .ref rm, .ref bk, .ref uw, .ref lw, .ref tk, .int hd])), (ro, .inr (1, [.ref oo, .int (nI lo)])), (oo, .inl (cI, 1200, .inl fo)), (rn, .inr (1, [.ref qn, .int (nI ln)])), (qn, .inl (cI, 1200, .inl (va_cpy fo fn p q m9)))])) (isC := [0, 1, 2, 3, 4]) (isR := []) hP hD hS hA ⟨rfl, rfl, by decide, by decide, by decide⟩ [0, 1, 2, 3, 4] (by decide) (fun _ => rfl) (fun hPc hDc => va_runV (As := [.int (nI 0), .int (nI p), .int (nI 1), .int (nI q), .int (nI m9)]) (rest := []) ⟨hx, hb, hml, hown, ht⟩ (c_X4_move01 Ll D cI cL d ro rn rm bk uw lw tk hd oo lo fo qn ln fn p q m9 h1 h2 hpm hqm H.size) ⟨(callB_of 5 ht g_X4_move rfl rfl rfl (ht _ iw_30) (ht _ iw_265) hd_X4_move ⟨Nat.le_of_ble_eq_true rfl, Nat.le_of_ble_eq_true rfl⟩), (ht _ iw_266), (ht _ iw_267)⟩ (ds_pV hPc hDc hK (q0 := 0) rfl rfl) rfl rfl hl.1 rfl (lv_room (Nat.le_of_ble_eq_true rfl)) dL_move_8 ⟨Nat.le_of_ble_eq_true rfl, Nat.le_of_ble_eq_true rfl⟩) (fun u11 H locs hp12 hP hD hS => ?_)
              have hP : va_P D vwCl [(d, .inr (4, [.ref ro, .ref rn, .ref rm, .ref bk, .ref uw, .ref lw, .ref tk, .int hd])), (ro, .inr (1, [.ref oo, .int (nI lo)])), (oo, .inl (cI, 1200, .inl fo)), (rn, .inr (1, [.ref qn, .int (nI ln)])), (qn, .inl (cI, 1200, .inl (va_cpy fo fn p q m9)))] H := hP
              have hD : va_D A [(d, .inr (4, [.ref ro, .ref rn, .ref rm, .ref bk, .ref uw, .ref lw, .ref tk, .int hd])), (ro, .inr (1, [.ref oo, .int (nI lo)])), (oo, .inl (cI, 1200, .inl fo)), (rn, .inr (1, [.ref qn, .int (nI ln)])), (qn, .inl (cI, 1200, .inl (va_cpy fo fn p q m9)))] := hD
              have hp12 : True := hp12
              refine lv_goto (tgt := 22) hx hb dL_move_11 (by decide) ?_
              refine lv_iconst (v := nI 0) hx hb dL_move_22 (by decide +kernel) ?_
              exact ds_iret hx hb hr hlk rfl (lo, fo, ln, va_cpy fo fn p q m9) ⟨(n_move_ok1 (fo := fo) (fn := fn) h1 h2 hro (by rw [rsel_0]; exact hpm) hqm).2.symm, by rw [(n_move_ok1 (fo := fo) (fn := fn) h1 h2 hro (by rw [rsel_0]; exact hpm) hqm).1, rsel_0]⟩ hP hD hS (Nat.le_of_ble_eq_true rfl) (Nat.le_of_ble_eq_true rfl) dL_move_23
            ·
              refine lv_aload_n hx hb dL_move_0 rfl (lv_at hl 0 rfl) ?_
              refine lv_iload_n hx hb dL_move_1 rfl (lv_at hl 1 rfl) ?_
              refine lv_iload_n hx hb dL_move_2 rfl (lv_at hl 2 rfl) ?_
              refine lv_iload_n hx hb dL_move_3 rfl (lv_at hl 3 rfl) ?_
              refine lv_iload hx hb dL_move_4 (lv_at hl 4 rfl) ?_
              refine lv_iload hx hb dL_move_6 (lv_at hl 5 rfl) ?_
              refine ds_callXv (wc := [(d, .inr (4, [.ref ro, .ref rn, .ref rm, .ref bk, .ref uw, .ref lw, .ref tk, .int hd])), (ro, .inr (1, [.ref oo, .int (nI lo)])), (rn, .inr (1, [.ref qn, .int (nI ln)]))]) (wr := [(oo, .inl (cI, 1200, .inl fo)), (qn, .inl (cI, 1200, .inl fn))]) (wo := (fun u14 : Unit => [(d, .inr (4, [.ref ro, .ref rn, .ref rm, .ref bk, .ref uw, .ref lw, .ref tk, .int hd])), (ro, .inr (1, [.ref oo, .int (nI lo)])), (rn, .inr (1, [.ref qn, .int (nI ln)]))])) (wn := (fun u14 : Unit => [(d, .inr (4, [.ref ro, .ref rn, .ref rm, .ref bk, .ref uw, .ref lw, .ref tk, .int hd])), (ro, .inr (1, [.ref oo, .int (nI lo)])), (oo, .inl (cI, 1200, .inl fo)), (rn, .inr (1, [.ref qn, .int (nI ln)])), (qn, .inl (cI, 1200, .inl fn))])) (isC := [0, 1, 3]) (isR := [2, 4]) hP hD hS hA ⟨rfl, rfl, by decide, by decide, by decide⟩ [2, 3, 0, 4, 1] (by decide) (fun _ => rfl) [2, 3, 0, 4, 1] rfl (fun hPc hDc hFc => vx_runV (As := [.int (nI 0), .int (nI p), .int (nI 1), .int v, .int (nI m)]) (rest := []) ⟨hx, hb, hml, hown, ht⟩ (x_X4_move_01b Ll hlst D cI cL d ro rn rm bk uw lw tk hd oo lo qn ln p m v (by omega) hpm (Classical.not_not.mp hg2) H.size) ⟨(callB_of 5 ht g_X4_move rfl rfl rfl (ht _ iw_30) (ht _ iw_265) hd_X4_move ⟨Nat.le_of_ble_eq_true rfl, Nat.le_of_ble_eq_true rfl⟩), (ht _ iw_266), (ht _ iw_267)⟩ (ds_pVX hPc hDc hK hZ hS hFc (q0 := 0) rfl rfl) rfl rfl hl.1 rfl (lv_room (Nat.le_of_ble_eq_true rfl)) dL_move_8 ⟨Nat.le_of_ble_eq_true rfl, Nat.le_of_ble_eq_true rfl⟩) (fun E9 ce9 q9 H locs hpx hP hS h9 hn9 hc9 => ?_) (fun u14 H locs hp15 hP hD hS => ?_)
              ·
                have hP : va_P D vwCl [(d, .inr (4, [.ref ro, .ref rn, .ref rm, .ref bk, .ref uw, .ref lw, .ref tk, .int hd])), (ro, .inr (1, [.ref oo, .int (nI lo)])), (oo, .inl (cI, 1200, .inl fo)), (rn, .inr (1, [.ref qn, .int (nI ln)])), (qn, .inl (cI, 1200, .inl fn))] H := hP
                subst hpx
                refine vx_catch (own := RL) (name := "java/lang/IndexOutOfBoundsException") hown [⟨0, 11, 14, 13⟩] ⟨0, 11, 18, 19⟩ [] (by rw [htab]; rfl) (fun z hz => by obtain rfl := List.mem_singleton.mp hz; exact Or.inr ⟨by decide, "java/lang/IllegalArgumentException", ht _ iw_377, hK.2.2.2⟩) (by decide) (by decide) (ht _ iw_378) (ncu_1 hK) h9 hn9 hc9 ?_
                refine lv_astore (lv' := [(6, .ref q9), (0, .ref d), (1, .int (nI 0)), (2, .int (nI p)), (3, .int (nI 1)), (4, .int v), (5, .int (nI m))]) hx hb dL_move_18 hl (Nat.le_of_ble_eq_true rfl) rfl (fun ls hl => ?_)
                refine lv_iconst (v := nI 2) hx hb dL_move_20 (by decide +kernel) ?_
                exact ds_iret hx hb hr hlk rfl (lo, fo, ln, fn) ⟨(e_move_x ⟨hro, hro2⟩ (by rw [rsel_0, rsel_1]; exact fun z9 => hg2 z9.2)).symm, (n_move_x (t := (lo, fo, ln, fn)) (fun z9 => absurd (z9.symm.trans (e_move_x ⟨hro, hro2⟩ (by rw [rsel_0, rsel_1]; exact fun z9 => hg2 z9.2))) (by decide))).symm⟩ hP hD hS (Nat.le_of_ble_eq_true rfl) (Nat.le_of_ble_eq_true rfl) dL_move_21
              ·
                exact False.elim hp15
          ·
            refine lv_aload_n hx hb dL_move_0 rfl (lv_at hl 0 rfl) ?_
            refine lv_iload_n hx hb dL_move_1 rfl (lv_at hl 1 rfl) ?_
            refine lv_iload_n hx hb dL_move_2 rfl (lv_at hl 2 rfl) ?_
            refine lv_iload_n hx hb dL_move_3 rfl (lv_at hl 3 rfl) ?_
            refine lv_iload hx hb dL_move_4 (lv_at hl 4 rfl) ?_
            refine lv_iload hx hb dL_move_6 (lv_at hl 5 rfl) ?_
            refine ds_callXv (wc := [(d, .inr (4, [.ref ro, .ref rn, .ref rm, .ref bk, .ref uw, .ref lw, .ref tk, .int hd])), (ro, .inr (1, [.ref oo, .int (nI lo)])), (rn, .inr (1, [.ref qn, .int (nI ln)]))]) (wr := [(oo, .inl (cI, 1200, .inl fo)), (qn, .inl (cI, 1200, .inl fn))]) (wo := (fun u17 : Unit => [(d, .inr (4, [.ref ro, .ref rn, .ref rm, .ref bk, .ref uw, .ref lw, .ref tk, .int hd])), (ro, .inr (1, [.ref oo, .int (nI lo)])), (rn, .inr (1, [.ref qn, .int (nI ln)]))])) (wn := (fun u17 : Unit => [(d, .inr (4, [.ref ro, .ref rn, .ref rm, .ref bk, .ref uw, .ref lw, .ref tk, .int hd])), (ro, .inr (1, [.ref oo, .int (nI lo)])), (oo, .inl (cI, 1200, .inl fo)), (rn, .inr (1, [.ref qn, .int (nI ln)])), (qn, .inl (cI, 1200, .inl fn))])) (isC := [0, 1, 3]) (isR := [2, 4]) hP hD hS hA ⟨rfl, rfl, by decide, by decide, by decide⟩ [2, 3, 0, 4, 1] (by decide) (fun _ => rfl) [2, 3, 0, 4, 1] rfl (fun hPc hDc hFc => vx_runV (As := [.int (nI 0), .int y, .int (nI 1), .int v, .int w]) (rest := []) ⟨hx, hb, hml, hown, ht⟩ (x_X4_move_01a Ll hlst D cI cL d ro rn rm bk uw lw tk hd oo lo qn ln y v w (Classical.not_not.mp hg) H.size) ⟨(callB_of 5 ht g_X4_move rfl rfl rfl (ht _ iw_30) (ht _ iw_265) hd_X4_move ⟨Nat.le_of_ble_eq_true rfl, Nat.le_of_ble_eq_true rfl⟩), (ht _ iw_266), (ht _ iw_267)⟩ (ds_pVX hPc hDc hK hZ hS hFc (q0 := 0) rfl rfl) rfl rfl hl.1 rfl (lv_room (Nat.le_of_ble_eq_true rfl)) dL_move_8 ⟨Nat.le_of_ble_eq_true rfl, Nat.le_of_ble_eq_true rfl⟩) (fun E9 ce9 q9 H locs hpx hP hS h9 hn9 hc9 => ?_) (fun u17 H locs hp18 hP hD hS => ?_)
            ·
              have hP : va_P D vwCl [(d, .inr (4, [.ref ro, .ref rn, .ref rm, .ref bk, .ref uw, .ref lw, .ref tk, .int hd])), (ro, .inr (1, [.ref oo, .int (nI lo)])), (oo, .inl (cI, 1200, .inl fo)), (rn, .inr (1, [.ref qn, .int (nI ln)])), (qn, .inl (cI, 1200, .inl fn))] H := hP
              subst hpx
              refine vx_catch (own := RL) (name := "java/lang/IndexOutOfBoundsException") hown [⟨0, 11, 14, 13⟩] ⟨0, 11, 18, 19⟩ [] (by rw [htab]; rfl) (fun z hz => by obtain rfl := List.mem_singleton.mp hz; exact Or.inr ⟨by decide, "java/lang/IllegalArgumentException", ht _ iw_377, hK.2.2.2⟩) (by decide) (by decide) (ht _ iw_378) (ncu_1 hK) h9 hn9 hc9 ?_
              refine lv_astore (lv' := [(6, .ref q9), (0, .ref d), (1, .int (nI 0)), (2, .int y), (3, .int (nI 1)), (4, .int v), (5, .int w)]) hx hb dL_move_18 hl (Nat.le_of_ble_eq_true rfl) rfl (fun ls hl => ?_)
              refine lv_iconst (v := nI 2) hx hb dL_move_20 (by decide +kernel) ?_
              exact ds_iret hx hb hr hlk rfl (lo, fo, ln, fn) ⟨(e_move_x ⟨hro, hro2⟩ (by rw [rsel_0, rsel_1]; exact fun z9 => hg z9.1)).symm, (n_move_x (t := (lo, fo, ln, fn)) (fun z9 => absurd (z9.symm.trans (e_move_x ⟨hro, hro2⟩ (by rw [rsel_0, rsel_1]; exact fun z9 => hg z9.1))) (by decide))).symm⟩ hP hD hS (Nat.le_of_ble_eq_true rfl) (Nat.le_of_ble_eq_true rfl) dL_move_21
            ·
              exact False.elim hp18
      ·
        refine lv_aload_n hx hb dL_move_0 rfl (lv_at hl 0 rfl) ?_
        refine lv_iload_n hx hb dL_move_1 rfl (lv_at hl 1 rfl) ?_
        refine lv_iload_n hx hb dL_move_2 rfl (lv_at hl 2 rfl) ?_
        refine lv_iload_n hx hb dL_move_3 rfl (lv_at hl 3 rfl) ?_
        refine lv_iload hx hb dL_move_4 (lv_at hl 4 rfl) ?_
        refine lv_iload hx hb dL_move_6 (lv_at hl 5 rfl) ?_
        refine ds_callXv (wc := [(d, .inr (4, [.ref ro, .ref rn, .ref rm, .ref bk, .ref uw, .ref lw, .ref tk, .int hd]))]) (wr := [(ro, .inr (1, [.ref oo, .int (nI lo)])), (oo, .inl (cI, 1200, .inl fo)), (rn, .inr (1, [.ref qn, .int (nI ln)])), (qn, .inl (cI, 1200, .inl fn))]) (wo := (fun u20 : Unit => [(d, .inr (4, [.ref ro, .ref rn, .ref rm, .ref bk, .ref uw, .ref lw, .ref tk, .int hd]))])) (wn := (fun u20 : Unit => [(d, .inr (4, [.ref ro, .ref rn, .ref rm, .ref bk, .ref uw, .ref lw, .ref tk, .int hd])), (ro, .inr (1, [.ref oo, .int (nI lo)])), (oo, .inl (cI, 1200, .inl fo)), (rn, .inr (1, [.ref qn, .int (nI ln)])), (qn, .inl (cI, 1200, .inl fn))])) (isC := [0]) (isR := [1, 2, 3, 4]) hP hD hS hA ⟨rfl, rfl, by decide, by decide, by decide⟩ [4, 0, 1, 2, 3] (by decide) (fun _ => rfl) [4, 0, 1, 2, 3] rfl (fun hPc hDc hFc => vx_runV (As := [.int (nI 0), .int y, .int z, .int v, .int w]) (rest := []) ⟨hx, hb, hml, hown, ht⟩ (x_X4_move_r0 Ll hlst D cI cL d ro rn rm bk uw lw tk hd z y v w (fun z9 => hr2 (Or.inl z9)) (fun z9 => hr2 (Or.inr z9)) H.size) ⟨(callB_of 5 ht g_X4_move rfl rfl rfl (ht _ iw_30) (ht _ iw_265) hd_X4_move ⟨Nat.le_of_ble_eq_true rfl, Nat.le_of_ble_eq_true rfl⟩), (ht _ iw_266), (ht _ iw_267)⟩ (ds_pVX hPc hDc hK hZ hS hFc (q0 := 0) rfl rfl) rfl rfl hl.1 rfl (lv_room (Nat.le_of_ble_eq_true rfl)) dL_move_8 ⟨Nat.le_of_ble_eq_true rfl, Nat.le_of_ble_eq_true rfl⟩) (fun E9 ce9 q9 H locs hpx hP hS h9 hn9 hc9 => ?_) (fun u20 H locs hp21 hP hD hS => ?_)
        ·
          have hP : va_P D vwCl [(d, .inr (4, [.ref ro, .ref rn, .ref rm, .ref bk, .ref uw, .ref lw, .ref tk, .int hd])), (ro, .inr (1, [.ref oo, .int (nI lo)])), (oo, .inl (cI, 1200, .inl fo)), (rn, .inr (1, [.ref qn, .int (nI ln)])), (qn, .inl (cI, 1200, .inl fn))] H := hP
          subst hpx
          refine vx_catch (own := RL) (name := "java/lang/IllegalArgumentException") hown [] ⟨0, 11, 14, 13⟩ [⟨0, 11, 18, 19⟩] (by rw [htab]; rfl) (fun z hz => by cases hz) (by decide) (by decide) (ht _ iw_377) (ncu_0 hK) h9 hn9 hc9 ?_
          refine lv_astore (lv' := [(6, .ref q9), (0, .ref d), (1, .int (nI 0)), (2, .int y), (3, .int z), (4, .int v), (5, .int w)]) hx hb dL_move_14 hl (Nat.le_of_ble_eq_true rfl) rfl (fun ls hl => ?_)
          refine lv_iconst (v := nI 1) hx hb dL_move_16 (by decide +kernel) ?_
          exact ds_iret hx hb hr hlk rfl (lo, fo, ln, fn) ⟨(e_move_r (fun z9 => hr2 z9.2)).symm, (n_move_x (t := (lo, fo, ln, fn)) (fun z9 => absurd (z9.symm.trans (e_move_r (fun z9 => hr2 z9.2))) (by decide))).symm⟩ hP hD hS (Nat.le_of_ble_eq_true rfl) (Nat.le_of_ble_eq_true rfl) dL_move_17
        ·
          exact False.elim hp21
    ·
      have hl : lv_has ls 7 [(0, .ref d), (1, .int (nI 1)), (2, .int y), (3, .int z), (4, .int v), (5, .int w)] := hl
      by_cases hr2 : rok z
      ·
        have hro2 := hr2
        rcases hr2 with rfl | rfl
        ·
          have hl : lv_has ls 7 [(0, .ref d), (1, .int (nI 1)), (2, .int y), (3, .int (nI 0)), (4, .int v), (5, .int w)] := hl
          by_cases hg : gok y w ln
          ·
            obtain ⟨p, m, hpm, e8, e9⟩ := gok_nat (by omega) hg
            subst e8 e9
            have hl : lv_has ls 7 [(0, .ref d), (1, .int (nI 1)), (2, .int (nI p)), (3, .int (nI 0)), (4, .int v), (5, .int (nI m))] := hl
            by_cases hg2 : gok v (nI m) lo
            ·
              obtain ⟨q, m9, hqm, e8, e9⟩ := gok_nat (by omega) hg2
              have e7 : m9 = m := by
                have h31 : m9 < 2 ^ 31 := by omega
                exact ((nI_eq h31 (by omega)).mp e9.symm)
              subst e7 e8
              have hl : lv_has ls 7 [(0, .ref d), (1, .int (nI 1)), (2, .int (nI p)), (3, .int (nI 0)), (4, .int (nI q)), (5, .int (nI m9))] := hl
              refine lv_aload_n hx hb dL_move_0 rfl (lv_at hl 0 rfl) ?_
              refine lv_iload_n hx hb dL_move_1 rfl (lv_at hl 1 rfl) ?_
              refine lv_iload_n hx hb dL_move_2 rfl (lv_at hl 2 rfl) ?_
              refine lv_iload_n hx hb dL_move_3 rfl (lv_at hl 3 rfl) ?_
              refine lv_iload hx hb dL_move_4 (lv_at hl 4 rfl) ?_
              refine lv_iload hx hb dL_move_6 (lv_at hl 5 rfl) ?_
              refine ds_callv (wc := [(d, .inr (4, [.ref ro, .ref rn, .ref rm, .ref bk, .ref uw, .ref lw, .ref tk, .int hd])), (ro, .inr (1, [.ref oo, .int (nI lo)])), (oo, .inl (cI, 1200, .inl fo)), (rn, .inr (1, [.ref qn, .int (nI ln)])), (qn, .inl (cI, 1200, .inl fn))]) (wr := []) (wo := (fun u23 : Unit => [(d, .inr (4, [.ref ro, .ref rn, .ref rm, .ref bk, .ref uw, .ref lw, .ref tk, .int hd])), (ro, .inr (1, [.ref oo, .int (nI lo)])), (oo, .inl (cI, 1200, .inl (va_cpy fn fo p q m9))), (rn, .inr (1, [.ref qn, .int (nI ln)])), (qn, .inl (cI, 1200, .inl fn))])) (wn := (fun u23 : Unit => [(d, .inr (4, [.ref ro, .ref rn, .ref rm, .ref bk, .ref uw, .ref lw, .ref tk, .int hd])), (ro, .inr (1, [.ref oo, .int (nI lo)])), (oo, .inl (cI, 1200, .inl (va_cpy fn fo p q m9))), (rn, .inr (1, [.ref qn, .int (nI ln)])), (qn, .inl (cI, 1200, .inl fn))])) (isC := [0, 1, 2, 3, 4]) (isR := []) hP hD hS hA ⟨rfl, rfl, by decide, by decide, by decide⟩ [0, 1, 2, 3, 4] (by decide) (fun _ => rfl) (fun hPc hDc => va_runV (As := [.int (nI 1), .int (nI p), .int (nI 0), .int (nI q), .int (nI m9)]) (rest := []) ⟨hx, hb, hml, hown, ht⟩ (c_X4_move10 Ll D cI cL d ro rn rm bk uw lw tk hd oo lo fo qn ln fn p q m9 h1 h2 hpm hqm H.size) ⟨(callB_of 5 ht g_X4_move rfl rfl rfl (ht _ iw_30) (ht _ iw_265) hd_X4_move ⟨Nat.le_of_ble_eq_true rfl, Nat.le_of_ble_eq_true rfl⟩), (ht _ iw_266), (ht _ iw_267)⟩ (ds_pV hPc hDc hK (q0 := 0) rfl rfl) rfl rfl hl.1 rfl (lv_room (Nat.le_of_ble_eq_true rfl)) dL_move_8 ⟨Nat.le_of_ble_eq_true rfl, Nat.le_of_ble_eq_true rfl⟩) (fun u23 H locs hp24 hP hD hS => ?_)
              have hP : va_P D vwCl [(d, .inr (4, [.ref ro, .ref rn, .ref rm, .ref bk, .ref uw, .ref lw, .ref tk, .int hd])), (ro, .inr (1, [.ref oo, .int (nI lo)])), (oo, .inl (cI, 1200, .inl (va_cpy fn fo p q m9))), (rn, .inr (1, [.ref qn, .int (nI ln)])), (qn, .inl (cI, 1200, .inl fn))] H := hP
              have hD : va_D A [(d, .inr (4, [.ref ro, .ref rn, .ref rm, .ref bk, .ref uw, .ref lw, .ref tk, .int hd])), (ro, .inr (1, [.ref oo, .int (nI lo)])), (oo, .inl (cI, 1200, .inl (va_cpy fn fo p q m9))), (rn, .inr (1, [.ref qn, .int (nI ln)])), (qn, .inl (cI, 1200, .inl fn))] := hD
              have hp24 : True := hp24
              refine lv_goto (tgt := 22) hx hb dL_move_11 (by decide) ?_
              refine lv_iconst (v := nI 0) hx hb dL_move_22 (by decide +kernel) ?_
              exact ds_iret hx hb hr hlk rfl (lo, va_cpy fn fo p q m9, ln, fn) ⟨(n_move_ok0 (fo := fo) (fn := fn) h1 h2 hro (by rw [rsel_1]; exact hpm) hqm).2.symm, by rw [(n_move_ok0 (fo := fo) (fn := fn) h1 h2 hro (by rw [rsel_1]; exact hpm) hqm).1, rsel_1]⟩ hP hD hS (Nat.le_of_ble_eq_true rfl) (Nat.le_of_ble_eq_true rfl) dL_move_23
            ·
              refine lv_aload_n hx hb dL_move_0 rfl (lv_at hl 0 rfl) ?_
              refine lv_iload_n hx hb dL_move_1 rfl (lv_at hl 1 rfl) ?_
              refine lv_iload_n hx hb dL_move_2 rfl (lv_at hl 2 rfl) ?_
              refine lv_iload_n hx hb dL_move_3 rfl (lv_at hl 3 rfl) ?_
              refine lv_iload hx hb dL_move_4 (lv_at hl 4 rfl) ?_
              refine lv_iload hx hb dL_move_6 (lv_at hl 5 rfl) ?_
              refine ds_callXv (wc := [(d, .inr (4, [.ref ro, .ref rn, .ref rm, .ref bk, .ref uw, .ref lw, .ref tk, .int hd])), (ro, .inr (1, [.ref oo, .int (nI lo)])), (rn, .inr (1, [.ref qn, .int (nI ln)]))]) (wr := [(oo, .inl (cI, 1200, .inl fo)), (qn, .inl (cI, 1200, .inl fn))]) (wo := (fun u26 : Unit => [(d, .inr (4, [.ref ro, .ref rn, .ref rm, .ref bk, .ref uw, .ref lw, .ref tk, .int hd])), (ro, .inr (1, [.ref oo, .int (nI lo)])), (rn, .inr (1, [.ref qn, .int (nI ln)]))])) (wn := (fun u26 : Unit => [(d, .inr (4, [.ref ro, .ref rn, .ref rm, .ref bk, .ref uw, .ref lw, .ref tk, .int hd])), (ro, .inr (1, [.ref oo, .int (nI lo)])), (oo, .inl (cI, 1200, .inl fo)), (rn, .inr (1, [.ref qn, .int (nI ln)])), (qn, .inl (cI, 1200, .inl fn))])) (isC := [0, 1, 3]) (isR := [2, 4]) hP hD hS hA ⟨rfl, rfl, by decide, by decide, by decide⟩ [2, 3, 0, 4, 1] (by decide) (fun _ => rfl) [2, 3, 0, 4, 1] rfl (fun hPc hDc hFc => vx_runV (As := [.int (nI 1), .int (nI p), .int (nI 0), .int v, .int (nI m)]) (rest := []) ⟨hx, hb, hml, hown, ht⟩ (x_X4_move_10b Ll hlst D cI cL d ro rn rm bk uw lw tk hd oo lo qn ln p m v (by omega) hpm (Classical.not_not.mp hg2) H.size) ⟨(callB_of 5 ht g_X4_move rfl rfl rfl (ht _ iw_30) (ht _ iw_265) hd_X4_move ⟨Nat.le_of_ble_eq_true rfl, Nat.le_of_ble_eq_true rfl⟩), (ht _ iw_266), (ht _ iw_267)⟩ (ds_pVX hPc hDc hK hZ hS hFc (q0 := 0) rfl rfl) rfl rfl hl.1 rfl (lv_room (Nat.le_of_ble_eq_true rfl)) dL_move_8 ⟨Nat.le_of_ble_eq_true rfl, Nat.le_of_ble_eq_true rfl⟩) (fun E9 ce9 q9 H locs hpx hP hS h9 hn9 hc9 => ?_) (fun u26 H locs hp27 hP hD hS => ?_)
              ·
                have hP : va_P D vwCl [(d, .inr (4, [.ref ro, .ref rn, .ref rm, .ref bk, .ref uw, .ref lw, .ref tk, .int hd])), (ro, .inr (1, [.ref oo, .int (nI lo)])), (oo, .inl (cI, 1200, .inl fo)), (rn, .inr (1, [.ref qn, .int (nI ln)])), (qn, .inl (cI, 1200, .inl fn))] H := hP
                subst hpx
                refine vx_catch (own := RL) (name := "java/lang/IndexOutOfBoundsException") hown [⟨0, 11, 14, 13⟩] ⟨0, 11, 18, 19⟩ [] (by rw [htab]; rfl) (fun z hz => by obtain rfl := List.mem_singleton.mp hz; exact Or.inr ⟨by decide, "java/lang/IllegalArgumentException", ht _ iw_377, hK.2.2.2⟩) (by decide) (by decide) (ht _ iw_378) (ncu_1 hK) h9 hn9 hc9 ?_
                refine lv_astore (lv' := [(6, .ref q9), (0, .ref d), (1, .int (nI 1)), (2, .int (nI p)), (3, .int (nI 0)), (4, .int v), (5, .int (nI m))]) hx hb dL_move_18 hl (Nat.le_of_ble_eq_true rfl) rfl (fun ls hl => ?_)
                refine lv_iconst (v := nI 2) hx hb dL_move_20 (by decide +kernel) ?_
                exact ds_iret hx hb hr hlk rfl (lo, fo, ln, fn) ⟨(e_move_x ⟨hro, hro2⟩ (by rw [rsel_1, rsel_0]; exact fun z9 => hg2 z9.2)).symm, (n_move_x (t := (lo, fo, ln, fn)) (fun z9 => absurd (z9.symm.trans (e_move_x ⟨hro, hro2⟩ (by rw [rsel_1, rsel_0]; exact fun z9 => hg2 z9.2))) (by decide))).symm⟩ hP hD hS (Nat.le_of_ble_eq_true rfl) (Nat.le_of_ble_eq_true rfl) dL_move_21
              ·
                exact False.elim hp27
          ·
            refine lv_aload_n hx hb dL_move_0 rfl (lv_at hl 0 rfl) ?_
            refine lv_iload_n hx hb dL_move_1 rfl (lv_at hl 1 rfl) ?_
            refine lv_iload_n hx hb dL_move_2 rfl (lv_at hl 2 rfl) ?_
            refine lv_iload_n hx hb dL_move_3 rfl (lv_at hl 3 rfl) ?_
            refine lv_iload hx hb dL_move_4 (lv_at hl 4 rfl) ?_
            refine lv_iload hx hb dL_move_6 (lv_at hl 5 rfl) ?_
            refine ds_callXv (wc := [(d, .inr (4, [.ref ro, .ref rn, .ref rm, .ref bk, .ref uw, .ref lw, .ref tk, .int hd])), (ro, .inr (1, [.ref oo, .int (nI lo)])), (rn, .inr (1, [.ref qn, .int (nI ln)]))]) (wr := [(oo, .inl (cI, 1200, .inl fo)), (qn, .inl (cI, 1200, .inl fn))]) (wo := (fun u29 : Unit => [(d, .inr (4, [.ref ro, .ref rn, .ref rm, .ref bk, .ref uw, .ref lw, .ref tk, .int hd])), (ro, .inr (1, [.ref oo, .int (nI lo)])), (rn, .inr (1, [.ref qn, .int (nI ln)]))])) (wn := (fun u29 : Unit => [(d, .inr (4, [.ref ro, .ref rn, .ref rm, .ref bk, .ref uw, .ref lw, .ref tk, .int hd])), (ro, .inr (1, [.ref oo, .int (nI lo)])), (oo, .inl (cI, 1200, .inl fo)), (rn, .inr (1, [.ref qn, .int (nI ln)])), (qn, .inl (cI, 1200, .inl fn))])) (isC := [0, 1, 3]) (isR := [2, 4]) hP hD hS hA ⟨rfl, rfl, by decide, by decide, by decide⟩ [2, 3, 0, 4, 1] (by decide) (fun _ => rfl) [2, 3, 0, 4, 1] rfl (fun hPc hDc hFc => vx_runV (As := [.int (nI 1), .int y, .int (nI 0), .int v, .int w]) (rest := []) ⟨hx, hb, hml, hown, ht⟩ (x_X4_move_10a Ll hlst D cI cL d ro rn rm bk uw lw tk hd oo lo qn ln y v w (Classical.not_not.mp hg) H.size) ⟨(callB_of 5 ht g_X4_move rfl rfl rfl (ht _ iw_30) (ht _ iw_265) hd_X4_move ⟨Nat.le_of_ble_eq_true rfl, Nat.le_of_ble_eq_true rfl⟩), (ht _ iw_266), (ht _ iw_267)⟩ (ds_pVX hPc hDc hK hZ hS hFc (q0 := 0) rfl rfl) rfl rfl hl.1 rfl (lv_room (Nat.le_of_ble_eq_true rfl)) dL_move_8 ⟨Nat.le_of_ble_eq_true rfl, Nat.le_of_ble_eq_true rfl⟩) (fun E9 ce9 q9 H locs hpx hP hS h9 hn9 hc9 => ?_) (fun u29 H locs hp30 hP hD hS => ?_)
            ·
              have hP : va_P D vwCl [(d, .inr (4, [.ref ro, .ref rn, .ref rm, .ref bk, .ref uw, .ref lw, .ref tk, .int hd])), (ro, .inr (1, [.ref oo, .int (nI lo)])), (oo, .inl (cI, 1200, .inl fo)), (rn, .inr (1, [.ref qn, .int (nI ln)])), (qn, .inl (cI, 1200, .inl fn))] H := hP
              subst hpx
              refine vx_catch (own := RL) (name := "java/lang/IndexOutOfBoundsException") hown [⟨0, 11, 14, 13⟩] ⟨0, 11, 18, 19⟩ [] (by rw [htab]; rfl) (fun z hz => by obtain rfl := List.mem_singleton.mp hz; exact Or.inr ⟨by decide, "java/lang/IllegalArgumentException", ht _ iw_377, hK.2.2.2⟩) (by decide) (by decide) (ht _ iw_378) (ncu_1 hK) h9 hn9 hc9 ?_
              refine lv_astore (lv' := [(6, .ref q9), (0, .ref d), (1, .int (nI 1)), (2, .int y), (3, .int (nI 0)), (4, .int v), (5, .int w)]) hx hb dL_move_18 hl (Nat.le_of_ble_eq_true rfl) rfl (fun ls hl => ?_)
              refine lv_iconst (v := nI 2) hx hb dL_move_20 (by decide +kernel) ?_
              exact ds_iret hx hb hr hlk rfl (lo, fo, ln, fn) ⟨(e_move_x ⟨hro, hro2⟩ (by rw [rsel_1, rsel_0]; exact fun z9 => hg z9.1)).symm, (n_move_x (t := (lo, fo, ln, fn)) (fun z9 => absurd (z9.symm.trans (e_move_x ⟨hro, hro2⟩ (by rw [rsel_1, rsel_0]; exact fun z9 => hg z9.1))) (by decide))).symm⟩ hP hD hS (Nat.le_of_ble_eq_true rfl) (Nat.le_of_ble_eq_true rfl) dL_move_21
            ·
              exact False.elim hp30
        ·
          have hl : lv_has ls 7 [(0, .ref d), (1, .int (nI 1)), (2, .int y), (3, .int (nI 1)), (4, .int v), (5, .int w)] := hl
          by_cases hg : gok y w ln
          ·
            obtain ⟨p, m, hpm, e8, e9⟩ := gok_nat (by omega) hg
            subst e8 e9
            have hl : lv_has ls 7 [(0, .ref d), (1, .int (nI 1)), (2, .int (nI p)), (3, .int (nI 1)), (4, .int v), (5, .int (nI m))] := hl
            by_cases hg2 : gok v (nI m) ln
            ·
              obtain ⟨q, m9, hqm, e8, e9⟩ := gok_nat (by omega) hg2
              have e7 : m9 = m := by
                have h31 : m9 < 2 ^ 31 := by omega
                exact ((nI_eq h31 (by omega)).mp e9.symm)
              subst e7 e8
              have hl : lv_has ls 7 [(0, .ref d), (1, .int (nI 1)), (2, .int (nI p)), (3, .int (nI 1)), (4, .int (nI q)), (5, .int (nI m9))] := hl
              refine lv_aload_n hx hb dL_move_0 rfl (lv_at hl 0 rfl) ?_
              refine lv_iload_n hx hb dL_move_1 rfl (lv_at hl 1 rfl) ?_
              refine lv_iload_n hx hb dL_move_2 rfl (lv_at hl 2 rfl) ?_
              refine lv_iload_n hx hb dL_move_3 rfl (lv_at hl 3 rfl) ?_
              refine lv_iload hx hb dL_move_4 (lv_at hl 4 rfl) ?_
              refine lv_iload hx hb dL_move_6 (lv_at hl 5 rfl) ?_
              refine ds_callv (wc := [(d, .inr (4, [.ref ro, .ref rn, .ref rm, .ref bk, .ref uw, .ref lw, .ref tk, .int hd])), (ro, .inr (1, [.ref oo, .int (nI lo)])), (oo, .inl (cI, 1200, .inl fo)), (rn, .inr (1, [.ref qn, .int (nI ln)])), (qn, .inl (cI, 1200, .inl fn))]) (wr := []) (wo := (fun u32 : Unit => [(d, .inr (4, [.ref ro, .ref rn, .ref rm, .ref bk, .ref uw, .ref lw, .ref tk, .int hd])), (ro, .inr (1, [.ref oo, .int (nI lo)])), (oo, .inl (cI, 1200, .inl fo)), (rn, .inr (1, [.ref qn, .int (nI ln)])), (qn, .inl (cI, 1200, .inl (va_cpy fn fn p q m9)))])) (wn := (fun u32 : Unit => [(d, .inr (4, [.ref ro, .ref rn, .ref rm, .ref bk, .ref uw, .ref lw, .ref tk, .int hd])), (ro, .inr (1, [.ref oo, .int (nI lo)])), (oo, .inl (cI, 1200, .inl fo)), (rn, .inr (1, [.ref qn, .int (nI ln)])), (qn, .inl (cI, 1200, .inl (va_cpy fn fn p q m9)))])) (isC := [0, 1, 2, 3, 4]) (isR := []) hP hD hS hA ⟨rfl, rfl, by decide, by decide, by decide⟩ [0, 1, 2, 3, 4] (by decide) (fun _ => rfl) (fun hPc hDc => va_runV (As := [.int (nI 1), .int (nI p), .int (nI 1), .int (nI q), .int (nI m9)]) (rest := []) ⟨hx, hb, hml, hown, ht⟩ (c_X4_move11 Ll D cI cL d ro rn rm bk uw lw tk hd oo lo fo qn ln fn p q m9 h1 h2 hpm hqm H.size) ⟨(callB_of 5 ht g_X4_move rfl rfl rfl (ht _ iw_30) (ht _ iw_265) hd_X4_move ⟨Nat.le_of_ble_eq_true rfl, Nat.le_of_ble_eq_true rfl⟩), (ht _ iw_266), (ht _ iw_267)⟩ (ds_pV hPc hDc hK (q0 := 0) rfl rfl) rfl rfl hl.1 rfl (lv_room (Nat.le_of_ble_eq_true rfl)) dL_move_8 ⟨Nat.le_of_ble_eq_true rfl, Nat.le_of_ble_eq_true rfl⟩) (fun u32 H locs hp33 hP hD hS => ?_)
              have hP : va_P D vwCl [(d, .inr (4, [.ref ro, .ref rn, .ref rm, .ref bk, .ref uw, .ref lw, .ref tk, .int hd])), (ro, .inr (1, [.ref oo, .int (nI lo)])), (oo, .inl (cI, 1200, .inl fo)), (rn, .inr (1, [.ref qn, .int (nI ln)])), (qn, .inl (cI, 1200, .inl (va_cpy fn fn p q m9)))] H := hP
              have hD : va_D A [(d, .inr (4, [.ref ro, .ref rn, .ref rm, .ref bk, .ref uw, .ref lw, .ref tk, .int hd])), (ro, .inr (1, [.ref oo, .int (nI lo)])), (oo, .inl (cI, 1200, .inl fo)), (rn, .inr (1, [.ref qn, .int (nI ln)])), (qn, .inl (cI, 1200, .inl (va_cpy fn fn p q m9)))] := hD
              have hp33 : True := hp33
              refine lv_goto (tgt := 22) hx hb dL_move_11 (by decide) ?_
              refine lv_iconst (v := nI 0) hx hb dL_move_22 (by decide +kernel) ?_
              exact ds_iret hx hb hr hlk rfl (lo, fo, ln, va_cpy fn fn p q m9) ⟨(n_move_ok1 (fo := fo) (fn := fn) h1 h2 hro (by rw [rsel_1]; exact hpm) hqm).2.symm, by rw [(n_move_ok1 (fo := fo) (fn := fn) h1 h2 hro (by rw [rsel_1]; exact hpm) hqm).1, rsel_1]⟩ hP hD hS (Nat.le_of_ble_eq_true rfl) (Nat.le_of_ble_eq_true rfl) dL_move_23
            ·
              refine lv_aload_n hx hb dL_move_0 rfl (lv_at hl 0 rfl) ?_
              refine lv_iload_n hx hb dL_move_1 rfl (lv_at hl 1 rfl) ?_
              refine lv_iload_n hx hb dL_move_2 rfl (lv_at hl 2 rfl) ?_
              refine lv_iload_n hx hb dL_move_3 rfl (lv_at hl 3 rfl) ?_
              refine lv_iload hx hb dL_move_4 (lv_at hl 4 rfl) ?_
              refine lv_iload hx hb dL_move_6 (lv_at hl 5 rfl) ?_
              refine ds_callXv (wc := [(d, .inr (4, [.ref ro, .ref rn, .ref rm, .ref bk, .ref uw, .ref lw, .ref tk, .int hd])), (ro, .inr (1, [.ref oo, .int (nI lo)])), (rn, .inr (1, [.ref qn, .int (nI ln)]))]) (wr := [(oo, .inl (cI, 1200, .inl fo)), (qn, .inl (cI, 1200, .inl fn))]) (wo := (fun u35 : Unit => [(d, .inr (4, [.ref ro, .ref rn, .ref rm, .ref bk, .ref uw, .ref lw, .ref tk, .int hd])), (ro, .inr (1, [.ref oo, .int (nI lo)])), (rn, .inr (1, [.ref qn, .int (nI ln)]))])) (wn := (fun u35 : Unit => [(d, .inr (4, [.ref ro, .ref rn, .ref rm, .ref bk, .ref uw, .ref lw, .ref tk, .int hd])), (ro, .inr (1, [.ref oo, .int (nI lo)])), (oo, .inl (cI, 1200, .inl fo)), (rn, .inr (1, [.ref qn, .int (nI ln)])), (qn, .inl (cI, 1200, .inl fn))])) (isC := [0, 1, 3]) (isR := [2, 4]) hP hD hS hA ⟨rfl, rfl, by decide, by decide, by decide⟩ [2, 3, 0, 4, 1] (by decide) (fun _ => rfl) [2, 3, 0, 4, 1] rfl (fun hPc hDc hFc => vx_runV (As := [.int (nI 1), .int (nI p), .int (nI 1), .int v, .int (nI m)]) (rest := []) ⟨hx, hb, hml, hown, ht⟩ (x_X4_move_11b Ll hlst D cI cL d ro rn rm bk uw lw tk hd oo lo qn ln p m v (by omega) hpm (Classical.not_not.mp hg2) H.size) ⟨(callB_of 5 ht g_X4_move rfl rfl rfl (ht _ iw_30) (ht _ iw_265) hd_X4_move ⟨Nat.le_of_ble_eq_true rfl, Nat.le_of_ble_eq_true rfl⟩), (ht _ iw_266), (ht _ iw_267)⟩ (ds_pVX hPc hDc hK hZ hS hFc (q0 := 0) rfl rfl) rfl rfl hl.1 rfl (lv_room (Nat.le_of_ble_eq_true rfl)) dL_move_8 ⟨Nat.le_of_ble_eq_true rfl, Nat.le_of_ble_eq_true rfl⟩) (fun E9 ce9 q9 H locs hpx hP hS h9 hn9 hc9 => ?_) (fun u35 H locs hp36 hP hD hS => ?_)
              ·
                have hP : va_P D vwCl [(d, .inr (4, [.ref ro, .ref rn, .ref rm, .ref bk, .ref uw, .ref lw, .ref tk, .int hd])), (ro, .inr (1, [.ref oo, .int (nI lo)])), (oo, .inl (cI, 1200, .inl fo)), (rn, .inr (1, [.ref qn, .int (nI ln)])), (qn, .inl (cI, 1200, .inl fn))] H := hP
                subst hpx
                refine vx_catch (own := RL) (name := "java/lang/IndexOutOfBoundsException") hown [⟨0, 11, 14, 13⟩] ⟨0, 11, 18, 19⟩ [] (by rw [htab]; rfl) (fun z hz => by obtain rfl := List.mem_singleton.mp hz; exact Or.inr ⟨by decide, "java/lang/IllegalArgumentException", ht _ iw_377, hK.2.2.2⟩) (by decide) (by decide) (ht _ iw_378) (ncu_1 hK) h9 hn9 hc9 ?_
                refine lv_astore (lv' := [(6, .ref q9), (0, .ref d), (1, .int (nI 1)), (2, .int (nI p)), (3, .int (nI 1)), (4, .int v), (5, .int (nI m))]) hx hb dL_move_18 hl (Nat.le_of_ble_eq_true rfl) rfl (fun ls hl => ?_)
                refine lv_iconst (v := nI 2) hx hb dL_move_20 (by decide +kernel) ?_
                exact ds_iret hx hb hr hlk rfl (lo, fo, ln, fn) ⟨(e_move_x ⟨hro, hro2⟩ (by rw [rsel_1]; exact fun z9 => hg2 z9.2)).symm, (n_move_x (t := (lo, fo, ln, fn)) (fun z9 => absurd (z9.symm.trans (e_move_x ⟨hro, hro2⟩ (by rw [rsel_1]; exact fun z9 => hg2 z9.2))) (by decide))).symm⟩ hP hD hS (Nat.le_of_ble_eq_true rfl) (Nat.le_of_ble_eq_true rfl) dL_move_21
              ·
                exact False.elim hp36
          ·
            refine lv_aload_n hx hb dL_move_0 rfl (lv_at hl 0 rfl) ?_
            refine lv_iload_n hx hb dL_move_1 rfl (lv_at hl 1 rfl) ?_
            refine lv_iload_n hx hb dL_move_2 rfl (lv_at hl 2 rfl) ?_
            refine lv_iload_n hx hb dL_move_3 rfl (lv_at hl 3 rfl) ?_
            refine lv_iload hx hb dL_move_4 (lv_at hl 4 rfl) ?_
            refine lv_iload hx hb dL_move_6 (lv_at hl 5 rfl) ?_
            refine ds_callXv (wc := [(d, .inr (4, [.ref ro, .ref rn, .ref rm, .ref bk, .ref uw, .ref lw, .ref tk, .int hd])), (ro, .inr (1, [.ref oo, .int (nI lo)])), (rn, .inr (1, [.ref qn, .int (nI ln)]))]) (wr := [(oo, .inl (cI, 1200, .inl fo)), (qn, .inl (cI, 1200, .inl fn))]) (wo := (fun u38 : Unit => [(d, .inr (4, [.ref ro, .ref rn, .ref rm, .ref bk, .ref uw, .ref lw, .ref tk, .int hd])), (ro, .inr (1, [.ref oo, .int (nI lo)])), (rn, .inr (1, [.ref qn, .int (nI ln)]))])) (wn := (fun u38 : Unit => [(d, .inr (4, [.ref ro, .ref rn, .ref rm, .ref bk, .ref uw, .ref lw, .ref tk, .int hd])), (ro, .inr (1, [.ref oo, .int (nI lo)])), (oo, .inl (cI, 1200, .inl fo)), (rn, .inr (1, [.ref qn, .int (nI ln)])), (qn, .inl (cI, 1200, .inl fn))])) (isC := [0, 1, 3]) (isR := [2, 4]) hP hD hS hA ⟨rfl, rfl, by decide, by decide, by decide⟩ [2, 3, 0, 4, 1] (by decide) (fun _ => rfl) [2, 3, 0, 4, 1] rfl (fun hPc hDc hFc => vx_runV (As := [.int (nI 1), .int y, .int (nI 1), .int v, .int w]) (rest := []) ⟨hx, hb, hml, hown, ht⟩ (x_X4_move_11a Ll hlst D cI cL d ro rn rm bk uw lw tk hd oo lo qn ln y v w (Classical.not_not.mp hg) H.size) ⟨(callB_of 5 ht g_X4_move rfl rfl rfl (ht _ iw_30) (ht _ iw_265) hd_X4_move ⟨Nat.le_of_ble_eq_true rfl, Nat.le_of_ble_eq_true rfl⟩), (ht _ iw_266), (ht _ iw_267)⟩ (ds_pVX hPc hDc hK hZ hS hFc (q0 := 0) rfl rfl) rfl rfl hl.1 rfl (lv_room (Nat.le_of_ble_eq_true rfl)) dL_move_8 ⟨Nat.le_of_ble_eq_true rfl, Nat.le_of_ble_eq_true rfl⟩) (fun E9 ce9 q9 H locs hpx hP hS h9 hn9 hc9 => ?_) (fun u38 H locs hp39 hP hD hS => ?_)
            ·
              have hP : va_P D vwCl [(d, .inr (4, [.ref ro, .ref rn, .ref rm, .ref bk, .ref uw, .ref lw, .ref tk, .int hd])), (ro, .inr (1, [.ref oo, .int (nI lo)])), (oo, .inl (cI, 1200, .inl fo)), (rn, .inr (1, [.ref qn, .int (nI ln)])), (qn, .inl (cI, 1200, .inl fn))] H := hP
              subst hpx
              refine vx_catch (own := RL) (name := "java/lang/IndexOutOfBoundsException") hown [⟨0, 11, 14, 13⟩] ⟨0, 11, 18, 19⟩ [] (by rw [htab]; rfl) (fun z hz => by obtain rfl := List.mem_singleton.mp hz; exact Or.inr ⟨by decide, "java/lang/IllegalArgumentException", ht _ iw_377, hK.2.2.2⟩) (by decide) (by decide) (ht _ iw_378) (ncu_1 hK) h9 hn9 hc9 ?_
              refine lv_astore (lv' := [(6, .ref q9), (0, .ref d), (1, .int (nI 1)), (2, .int y), (3, .int (nI 1)), (4, .int v), (5, .int w)]) hx hb dL_move_18 hl (Nat.le_of_ble_eq_true rfl) rfl (fun ls hl => ?_)
              refine lv_iconst (v := nI 2) hx hb dL_move_20 (by decide +kernel) ?_
              exact ds_iret hx hb hr hlk rfl (lo, fo, ln, fn) ⟨(e_move_x ⟨hro, hro2⟩ (by rw [rsel_1]; exact fun z9 => hg z9.1)).symm, (n_move_x (t := (lo, fo, ln, fn)) (fun z9 => absurd (z9.symm.trans (e_move_x ⟨hro, hro2⟩ (by rw [rsel_1]; exact fun z9 => hg z9.1))) (by decide))).symm⟩ hP hD hS (Nat.le_of_ble_eq_true rfl) (Nat.le_of_ble_eq_true rfl) dL_move_21
            ·
              exact False.elim hp39
      ·
        refine lv_aload_n hx hb dL_move_0 rfl (lv_at hl 0 rfl) ?_
        refine lv_iload_n hx hb dL_move_1 rfl (lv_at hl 1 rfl) ?_
        refine lv_iload_n hx hb dL_move_2 rfl (lv_at hl 2 rfl) ?_
        refine lv_iload_n hx hb dL_move_3 rfl (lv_at hl 3 rfl) ?_
        refine lv_iload hx hb dL_move_4 (lv_at hl 4 rfl) ?_
        refine lv_iload hx hb dL_move_6 (lv_at hl 5 rfl) ?_
        refine ds_callXv (wc := [(d, .inr (4, [.ref ro, .ref rn, .ref rm, .ref bk, .ref uw, .ref lw, .ref tk, .int hd]))]) (wr := [(ro, .inr (1, [.ref oo, .int (nI lo)])), (oo, .inl (cI, 1200, .inl fo)), (rn, .inr (1, [.ref qn, .int (nI ln)])), (qn, .inl (cI, 1200, .inl fn))]) (wo := (fun u41 : Unit => [(d, .inr (4, [.ref ro, .ref rn, .ref rm, .ref bk, .ref uw, .ref lw, .ref tk, .int hd]))])) (wn := (fun u41 : Unit => [(d, .inr (4, [.ref ro, .ref rn, .ref rm, .ref bk, .ref uw, .ref lw, .ref tk, .int hd])), (ro, .inr (1, [.ref oo, .int (nI lo)])), (oo, .inl (cI, 1200, .inl fo)), (rn, .inr (1, [.ref qn, .int (nI ln)])), (qn, .inl (cI, 1200, .inl fn))])) (isC := [0]) (isR := [1, 2, 3, 4]) hP hD hS hA ⟨rfl, rfl, by decide, by decide, by decide⟩ [4, 0, 1, 2, 3] (by decide) (fun _ => rfl) [4, 0, 1, 2, 3] rfl (fun hPc hDc hFc => vx_runV (As := [.int (nI 1), .int y, .int z, .int v, .int w]) (rest := []) ⟨hx, hb, hml, hown, ht⟩ (x_X4_move_r1 Ll hlst D cI cL d ro rn rm bk uw lw tk hd z y v w (fun z9 => hr2 (Or.inl z9)) (fun z9 => hr2 (Or.inr z9)) H.size) ⟨(callB_of 5 ht g_X4_move rfl rfl rfl (ht _ iw_30) (ht _ iw_265) hd_X4_move ⟨Nat.le_of_ble_eq_true rfl, Nat.le_of_ble_eq_true rfl⟩), (ht _ iw_266), (ht _ iw_267)⟩ (ds_pVX hPc hDc hK hZ hS hFc (q0 := 0) rfl rfl) rfl rfl hl.1 rfl (lv_room (Nat.le_of_ble_eq_true rfl)) dL_move_8 ⟨Nat.le_of_ble_eq_true rfl, Nat.le_of_ble_eq_true rfl⟩) (fun E9 ce9 q9 H locs hpx hP hS h9 hn9 hc9 => ?_) (fun u41 H locs hp42 hP hD hS => ?_)
        ·
          have hP : va_P D vwCl [(d, .inr (4, [.ref ro, .ref rn, .ref rm, .ref bk, .ref uw, .ref lw, .ref tk, .int hd])), (ro, .inr (1, [.ref oo, .int (nI lo)])), (oo, .inl (cI, 1200, .inl fo)), (rn, .inr (1, [.ref qn, .int (nI ln)])), (qn, .inl (cI, 1200, .inl fn))] H := hP
          subst hpx
          refine vx_catch (own := RL) (name := "java/lang/IllegalArgumentException") hown [] ⟨0, 11, 14, 13⟩ [⟨0, 11, 18, 19⟩] (by rw [htab]; rfl) (fun z hz => by cases hz) (by decide) (by decide) (ht _ iw_377) (ncu_0 hK) h9 hn9 hc9 ?_
          refine lv_astore (lv' := [(6, .ref q9), (0, .ref d), (1, .int (nI 1)), (2, .int y), (3, .int z), (4, .int v), (5, .int w)]) hx hb dL_move_14 hl (Nat.le_of_ble_eq_true rfl) rfl (fun ls hl => ?_)
          refine lv_iconst (v := nI 1) hx hb dL_move_16 (by decide +kernel) ?_
          exact ds_iret hx hb hr hlk rfl (lo, fo, ln, fn) ⟨(e_move_r (fun z9 => hr2 z9.2)).symm, (n_move_x (t := (lo, fo, ln, fn)) (fun z9 => absurd (z9.symm.trans (e_move_r (fun z9 => hr2 z9.2))) (by decide))).symm⟩ hP hD hS (Nat.le_of_ble_eq_true rfl) (Nat.le_of_ble_eq_true rfl) dL_move_17
        ·
          exact False.elim hp42
  ·
    refine lv_aload_n hx hb dL_move_0 rfl (lv_at hl 0 rfl) ?_
    refine lv_iload_n hx hb dL_move_1 rfl (lv_at hl 1 rfl) ?_
    refine lv_iload_n hx hb dL_move_2 rfl (lv_at hl 2 rfl) ?_
    refine lv_iload_n hx hb dL_move_3 rfl (lv_at hl 3 rfl) ?_
    refine lv_iload hx hb dL_move_4 (lv_at hl 4 rfl) ?_
    refine lv_iload hx hb dL_move_6 (lv_at hl 5 rfl) ?_
    refine ds_callXv (wc := [(d, .inr (4, [.ref ro, .ref rn, .ref rm, .ref bk, .ref uw, .ref lw, .ref tk, .int hd]))]) (wr := [(ro, .inr (1, [.ref oo, .int (nI lo)])), (oo, .inl (cI, 1200, .inl fo)), (rn, .inr (1, [.ref qn, .int (nI ln)])), (qn, .inl (cI, 1200, .inl fn))]) (wo := (fun u44 : Unit => [(d, .inr (4, [.ref ro, .ref rn, .ref rm, .ref bk, .ref uw, .ref lw, .ref tk, .int hd]))])) (wn := (fun u44 : Unit => [(d, .inr (4, [.ref ro, .ref rn, .ref rm, .ref bk, .ref uw, .ref lw, .ref tk, .int hd])), (ro, .inr (1, [.ref oo, .int (nI lo)])), (oo, .inl (cI, 1200, .inl fo)), (rn, .inr (1, [.ref qn, .int (nI ln)])), (qn, .inl (cI, 1200, .inl fn))])) (isC := [0]) (isR := [1, 2, 3, 4]) hP hD hS hA ⟨rfl, rfl, by decide, by decide, by decide⟩ [4, 0, 1, 2, 3] (by decide) (fun _ => rfl) [4, 0, 1, 2, 3] rfl (fun hPc hDc hFc => vx_runV (As := [.int x, .int y, .int z, .int v, .int w]) (rest := []) ⟨hx, hb, hml, hown, ht⟩ (x_X4_move_r Ll hlst D cI cL d ro rn rm bk uw lw tk hd x y z v w (fun z => hrk (Or.inl z)) (fun z => hrk (Or.inr z)) H.size) ⟨(callB_of 5 ht g_X4_move rfl rfl rfl (ht _ iw_30) (ht _ iw_265) hd_X4_move ⟨Nat.le_of_ble_eq_true rfl, Nat.le_of_ble_eq_true rfl⟩), (ht _ iw_266), (ht _ iw_267)⟩ (ds_pVX hPc hDc hK hZ hS hFc (q0 := 0) rfl rfl) rfl rfl hl.1 rfl (lv_room (Nat.le_of_ble_eq_true rfl)) dL_move_8 ⟨Nat.le_of_ble_eq_true rfl, Nat.le_of_ble_eq_true rfl⟩) (fun E9 ce9 q9 H locs hpx hP hS h9 hn9 hc9 => ?_) (fun u44 H locs hp45 hP hD hS => ?_)
    ·
      have hP : va_P D vwCl [(d, .inr (4, [.ref ro, .ref rn, .ref rm, .ref bk, .ref uw, .ref lw, .ref tk, .int hd])), (ro, .inr (1, [.ref oo, .int (nI lo)])), (oo, .inl (cI, 1200, .inl fo)), (rn, .inr (1, [.ref qn, .int (nI ln)])), (qn, .inl (cI, 1200, .inl fn))] H := hP
      subst hpx
      refine vx_catch (own := RL) (name := "java/lang/IllegalArgumentException") hown [] ⟨0, 11, 14, 13⟩ [⟨0, 11, 18, 19⟩] (by rw [htab]; rfl) (fun z hz => by cases hz) (by decide) (by decide) (ht _ iw_377) (ncu_0 hK) h9 hn9 hc9 ?_
      refine lv_astore (lv' := [(6, .ref q9), (0, .ref d), (1, .int x), (2, .int y), (3, .int z), (4, .int v), (5, .int w)]) hx hb dL_move_14 hl (Nat.le_of_ble_eq_true rfl) rfl (fun ls hl => ?_)
      refine lv_iconst (v := nI 1) hx hb dL_move_16 (by decide +kernel) ?_
      exact ds_iret hx hb hr hlk rfl (lo, fo, ln, fn) ⟨(e_move_r (fun z9 => hrk z9.1)).symm, (n_move_x (t := (lo, fo, ln, fn)) (fun z9 => absurd (z9.symm.trans (e_move_r (fun z9 => hrk z9.1))) (by decide))).symm⟩ hP hD hS (Nat.le_of_ble_eq_true rfl) (Nat.le_of_ble_eq_true rfl) dL_move_17
    ·
      exact False.elim hp45
