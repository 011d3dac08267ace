set_option maxHeartbeats 4000000 in
set_option maxRecDepth 100000 in
theorem c_L_token (Ll : Launch) (hlst : Ll.stackTraces = false) (D : va_G) (cI cL : ClassId) (d : Nat) (ro : Nat) (rn : Nat) (rm : Nat) (bk : Nat) (uw : Nat) (lw : Nat) (tk : Nat) (hd : Int32) (tK : Nat) (tF : Nat) (tL : Nat) (c : Nat) (fk : Nat → Int32) (ff : Nat → Int32) (fl : Nat → Int32) (ou : Nat) (fx : Nat → Int64) (x : Int32) (y : Int32) (h1 : c ≤ 1200) (sz : Nat) : Met Ll yL_token wsL_token { frames := 7, cells := 1, slots := 6, locals := 112 } (ds_PX D cI cL [.ref d, .int x, .int y, .ref ou] [(d, .inr (4, [.ref ro, .ref rn, .ref rm, .ref bk, .ref uw, .ref lw, .ref tk, .int hd])), (tk, .inr (2, [.ref tK, .ref tF, .ref tL, .int (nI c)])), (tK, .inl (cI, 1200, .inl fk)), (tF, .inl (cI, 1200, .inl ff)), (tL, .inl (cI, 1200, .inl fl)), (ou, .inl (cL, 1, .inr (.inl fx)))] sz) (ds_Qi D (fun (r : Int32) (u : Nat → Int64) => r = e_token x y c ∧ (e_token x y c = 0 → u 0 = (v_token x y fk ff fl).toInt64)) (fun u : Nat → Int64 => [(d, .inr (4, [.ref ro, .ref rn, .ref rm, .ref bk, .ref uw, .ref lw, .ref tk, .int hd])), (tk, .inr (2, [.ref tK, .ref tF, .ref tL, .int (nI c)])), (tK, .inl (cI, 1200, .inl fk)), (tF, .inl (cI, 1200, .inl ff)), (tL, .inl (cI, 1200, .inl fl)), (ou, .inl (cL, 1, .inr (.inl u)))]) (va_A [(d, .inr (4, [.ref ro, .ref rn, .ref rm, .ref bk, .ref uw, .ref lw, .ref tk, .int hd])), (tk, .inr (2, [.ref tK, .ref tF, .ref tL, .int (nI c)])), (tK, .inl (cI, 1200, .inl fk)), (tF, .inl (cI, 1200, .inl ff)), (tL, .inl (cI, 1200, .inl fl)), (ou, .inl (cL, 1, .inr (.inl fx)))] sz)) 1 6 (va_A [(d, .inr (4, [.ref ro, .ref rn, .ref rm, .ref bk, .ref uw, .ref lw, .ref tk, .int hd])), (tk, .inr (2, [.ref tK, .ref tF, .ref tL, .int (nI c)])), (tK, .inl (cI, 1200, .inl fk)), (tF, .inl (cI, 1200, .inl ff)), (tL, .inl (cI, 1200, .inl fl)), (ou, .inl (cL, 1, .inr (.inl fx)))] sz) := by
  refine ds_enterW (Qf := (fun A9 => ds_Qi D (fun (r : Int32) (u : Nat → Int64) => r = e_token x y c ∧ (e_token x y c = 0 → u 0 = (v_token x y fk ff fl).toInt64)) (fun u : Nat → Int64 => [(d, .inr (4, [.ref ro, .ref rn, .ref rm, .ref bk, .ref uw, .ref lw, .ref tk, .int hd])), (tk, .inr (2, [.ref tK, .ref tF, .ref tL, .int (nI c)])), (tK, .inl (cI, 1200, .inl fk)), (tF, .inl (cI, 1200, .inl ff)), (tL, .inl (cI, 1200, .inl fl)), (ou, .inl (cL, 1, .inr (.inl u)))]) A9)) (cc := cL_token) (maxL := 5) (ret := (some .int)) (by decide) rfl (Nat.le_of_ble_eq_true rfl) ?_
  intro Pp Ee Ss Mm Aa Bb Me Cc hx hb hml hr ht hown hlk hnm A H locs hA hP hD hS hK hZ htab ls hl
  have hl : lv_has ls 5 [(0, .ref d), (1, .int x), (2, .int y), (3, .ref ou)] := hl
  change Ss.vm.findClass RL = some Mm.cls at hown
  by_cases hw : wok y
  ·
    have hwo := hw
    rcases wok_nat hw with rfl | rfl | rfl
    ·
      have hl : lv_has ls 5 [(0, .ref d), (1, .int x), (2, .int (nI 0)), (3, .ref ou)] := hl
      by_cases hi : iok x c
      ·
        obtain ⟨q, hq, e9⟩ := iok_nat h1 hi
        subst e9
        have hl : lv_has ls 5 [(0, .ref d), (1, .int (nI q)), (2, .int (nI 0)), (3, .ref ou)] := hl
        refine lv_aload_n hx hb dL_token_0 rfl (lv_at hl 3 rfl) ?_
        refine lv_iconst (v := nI 0) hx hb dL_token_1 (by decide +kernel) ?_
        refine lv_aload_n hx hb dL_token_2 rfl (lv_at hl 0 rfl) ?_
        refine lv_iload_n hx hb dL_token_3 rfl (lv_at hl 1 rfl) ?_
        refine lv_iload_n hx hb dL_token_4 rfl (lv_at hl 2 rfl) ?_
        refine ds_calli (wc := [(d, .inr (4, [.ref ro, .ref rn, .ref rm, .ref bk, .ref uw, .ref lw, .ref tk, .int hd])), (tk, .inr (2, [.ref tK, .ref tF, .ref tL, .int (nI c)])), (tK, .inl (cI, 1200, .inl fk)), (tF, .inl (cI, 1200, .inl ff)), (tL, .inl (cI, 1200, .inl fl))]) (wr := [(ou, .inl (cL, 1, .inr (.inl fx)))]) (wo := (fun u2 : Unit => [(d, .inr (4, [.ref ro, .ref rn, .ref rm, .ref bk, .ref uw, .ref lw, .ref tk, .int hd])), (tk, .inr (2, [.ref tK, .ref tF, .ref tL, .int (nI c)])), (tK, .inl (cI, 1200, .inl fk)), (tF, .inl (cI, 1200, .inl ff)), (tL, .inl (cI, 1200, .inl fl))])) (wn := (fun u2 : Unit => [(d, .inr (4, [.ref ro, .ref rn, .ref rm, .ref bk, .ref uw, .ref lw, .ref tk, .int hd])), (tk, .inr (2, [.ref tK, .ref tF, .ref tL, .int (nI c)])), (tK, .inl (cI, 1200, .inl fk)), (tF, .inl (cI, 1200, .inl ff)), (tL, .inl (cI, 1200, .inl fl)), (ou, .inl (cL, 1, .inr (.inl fx)))])) (isC := [0, 1, 2, 3, 4]) (isR := [5]) hP hD hS hA ⟨rfl, rfl, by decide, by decide, by decide⟩ [1, 2, 3, 4, 5, 0] (by decide) (fun _ => rfl) (fun hPc hDc => va_runV (As := [.int (nI q), .int (nI 0)]) (rest := [.int (nI 0), .ref ou]) ⟨hx, hb, hml, hown, ht⟩ (c_X4_token0 Ll D cI cL d ro rn rm bk uw lw tk hd tK tF tL c fk ff fl q (by omega) (by omega) H.size) ⟨(callB_of 2 ht g_X4_token rfl rfl rfl (ht _ iw_30) (ht _ iw_289) hd_X4_token ⟨Nat.le_of_ble_eq_true rfl, Nat.le_of_ble_eq_true rfl⟩), (ht _ iw_290), (ht _ iw_291)⟩ (ds_pV hPc hDc hK (q0 := 0) rfl rfl) rfl rfl hl.1 rfl (lv_room (Nat.le_of_ble_eq_true rfl)) dL_token_5 ⟨Nat.le_of_ble_eq_true rfl, Nat.le_of_ble_eq_true rfl⟩) (fun r1 u2 H locs hp3 hP hD hS => ?_)
        have hP : va_P D vwCl [(d, .inr (4, [.ref ro, .ref rn, .ref rm, .ref bk, .ref uw, .ref lw, .ref tk, .int hd])), (tk, .inr (2, [.ref tK, .ref tF, .ref tL, .int (nI c)])), (tK, .inl (cI, 1200, .inl fk)), (tF, .inl (cI, 1200, .inl ff)), (tL, .inl (cI, 1200, .inl fl)), (ou, .inl (cL, 1, .inr (.inl fx)))] H := hP
        have hD : va_D A [(d, .inr (4, [.ref ro, .ref rn, .ref rm, .ref bk, .ref uw, .ref lw, .ref tk, .int hd])), (tk, .inr (2, [.ref tK, .ref tF, .ref tL, .int (nI c)])), (tK, .inl (cI, 1200, .inl fk)), (tF, .inl (cI, 1200, .inl ff)), (tL, .inl (cI, 1200, .inl fl)), (ou, .inl (cL, 1, .inr (.inl fx)))] := hD
        have hp3 : r1 = fk q := hp3
        replace hp3 := Eq.symm hp3
        subst hp3
        refine lv_i2l (v := (fk q).toInt64) hx hb dL_token_8 rfl ?_
        refine ds_last (k := 0) hx hb hK hP hD hS 5 rfl (by omega) (by omega) dL_token_9 (fun H locs hP hD hS => ?_)
        have hP : va_P D vwCl [(d, .inr (4, [.ref ro, .ref rn, .ref rm, .ref bk, .ref uw, .ref lw, .ref tk, .int hd])), (tk, .inr (2, [.ref tK, .ref tF, .ref tL, .int (nI c)])), (tK, .inl (cI, 1200, .inl fk)), (tF, .inl (cI, 1200, .inl ff)), (tL, .inl (cI, 1200, .inl fl)), (ou, .inl (cL, 1, .inr (.inl (vp_updL fx 0 ((fk q).toInt64)))))] H := hP
        have hD : va_D A [(d, .inr (4, [.ref ro, .ref rn, .ref rm, .ref bk, .ref uw, .ref lw, .ref tk, .int hd])), (tk, .inr (2, [.ref tK, .ref tF, .ref tL, .int (nI c)])), (tK, .inl (cI, 1200, .inl fk)), (tF, .inl (cI, 1200, .inl ff)), (tL, .inl (cI, 1200, .inl fl)), (ou, .inl (cL, 1, .inr (.inl (vp_updL fx 0 ((fk q).toInt64)))))] := hD
        refine lv_goto (tgt := 21) hx hb dL_token_10 (by decide) ?_
        refine lv_iconst (v := nI 0) hx hb dL_token_21 (by decide +kernel) ?_
        exact ds_iret hx hb hr hlk rfl (vp_updL fx 0 (fk q).toInt64) ⟨(e_token_ok hwo (iok_of hq h1)).symm, fun _ => by rw [v_token_0 (by omega)]; exact pk_uLs⟩ hP hD hS (Nat.le_of_ble_eq_true rfl) (Nat.le_of_ble_eq_true rfl) dL_token_22
      ·
        refine lv_aload_n hx hb dL_token_0 rfl (lv_at hl 3 rfl) ?_
        refine lv_iconst (v := nI 0) hx hb dL_token_1 (by decide +kernel) ?_
        refine lv_aload_n hx hb dL_token_2 rfl (lv_at hl 0 rfl) ?_
        refine lv_iload_n hx hb dL_token_3 rfl (lv_at hl 1 rfl) ?_
        refine lv_iload_n hx hb dL_token_4 rfl (lv_at hl 2 rfl) ?_
        refine ds_callXi (wc := [(d, .inr (4, [.ref ro, .ref rn, .ref rm, .ref bk, .ref uw, .ref lw, .ref tk, .int hd])), (tk, .inr (2, [.ref tK, .ref tF, .ref tL, .int (nI c)]))]) (wr := [(tK, .inl (cI, 1200, .inl fk)), (tF, .inl (cI, 1200, .inl ff)), (tL, .inl (cI, 1200, .inl fl)), (ou, .inl (cL, 1, .inr (.inl fx)))]) (wo := (fun u5 : Unit => [(d, .inr (4, [.ref ro, .ref rn, .ref rm, .ref bk, .ref uw, .ref lw, .ref tk, .int hd])), (tk, .inr (2, [.ref tK, .ref tF, .ref tL, .int (nI c)]))])) (wn := (fun u5 : Unit => [(d, .inr (4, [.ref ro, .ref rn, .ref rm, .ref bk, .ref uw, .ref lw, .ref tk, .int hd])), (tk, .inr (2, [.ref tK, .ref tF, .ref tL, .int (nI c)])), (tK, .inl (cI, 1200, .inl fk)), (tF, .inl (cI, 1200, .inl ff)), (tL, .inl (cI, 1200, .inl fl)), (ou, .inl (cL, 1, .inr (.inl fx)))])) (isC := [0, 1]) (isR := [2, 3, 4, 5]) hP hD hS hA ⟨rfl, rfl, by decide, by decide, by decide⟩ [4, 5, 0, 1, 2, 3] (by decide) (fun _ => rfl) [4, 5, 0, 1, 2, 3] rfl (fun hPc hDc hFc => vx_runV (As := [.int x, .int (nI 0)]) (rest := [.int (nI 0), .ref ou]) ⟨hx, hb, hml, hown, ht⟩ (x_X4_token_o Ll hlst D cI cL d ro rn rm bk uw lw tk hd tK tF tL c 0 x (by decide) (Classical.not_not.mp hi) H.size) ⟨(callB_of 2 ht g_X4_token rfl rfl rfl (ht _ iw_30) (ht _ iw_289) hd_X4_token ⟨Nat.le_of_ble_eq_true rfl, Nat.le_of_ble_eq_true rfl⟩), (ht _ iw_290), (ht _ iw_291)⟩ (ds_pVX hPc hDc hK hZ hS hFc (q0 := 0) rfl rfl) rfl rfl hl.1 rfl (lv_room (Nat.le_of_ble_eq_true rfl)) dL_token_5 ⟨Nat.le_of_ble_eq_true rfl, Nat.le_of_ble_eq_true rfl⟩) (fun E9 ce9 q9 H locs hpx hP hS h9 hn9 hc9 => ?_) (fun r4 u5 H locs hp6 hP hD hS => ?_)
        ·
          have hP : va_P D vwCl [(d, .inr (4, [.ref ro, .ref rn, .ref rm, .ref bk, .ref uw, .ref lw, .ref tk, .int hd])), (tk, .inr (2, [.ref tK, .ref tF, .ref tL, .int (nI c)])), (tK, .inl (cI, 1200, .inl fk)), (tF, .inl (cI, 1200, .inl ff)), (tL, .inl (cI, 1200, .inl fl)), (ou, .inl (cL, 1, .inr (.inl fx)))] H := hP
          subst hpx
          refine vx_catch (own := RL) (name := "java/lang/IndexOutOfBoundsException") hown [⟨0, 10, 13, 13⟩] ⟨0, 10, 17, 19⟩ [] (by rw [htab]; rfl) (fun z hz => by obtain rfl := List.mem_singleton.mp hz; exact Or.inr ⟨by decide, "java/lang/IllegalArgumentException", ht _ iw_377, hK.2.2.2⟩) (by decide) (by decide) (ht _ iw_378) (ncu_1 hK) h9 hn9 hc9 ?_
          refine lv_astore (lv' := [(4, .ref q9), (0, .ref d), (1, .int x), (2, .int (nI 0)), (3, .ref ou)]) hx hb dL_token_17 hl (Nat.le_of_ble_eq_true rfl) rfl (fun ls hl => ?_)
          refine lv_iconst (v := nI 2) hx hb dL_token_19 (by decide +kernel) ?_
          exact ds_iret hx hb hr hlk rfl fx ⟨(e_token_x hwo hi).symm, fun z9 => absurd (z9.symm.trans (e_token_x hwo hi)) (by decide)⟩ hP hD hS (Nat.le_of_ble_eq_true rfl) (Nat.le_of_ble_eq_true rfl) dL_token_20
        ·
          exact False.elim hp6
    ·
      have hl : lv_has ls 5 [(0, .ref d), (1, .int x), (2, .int (nI 1)), (3, .ref ou)] := hl
      by_cases hi : iok x c
      ·
        obtain ⟨q, hq, e9⟩ := iok_nat h1 hi
        subst e9
        have hl : lv_has ls 5 [(0, .ref d), (1, .int (nI q)), (2, .int (nI 1)), (3, .ref ou)] := hl
        refine lv_aload_n hx hb dL_token_0 rfl (lv_at hl 3 rfl) ?_
        refine lv_iconst (v := nI 0) hx hb dL_token_1 (by decide +kernel) ?_
        refine lv_aload_n hx hb dL_token_2 rfl (lv_at hl 0 rfl) ?_
        refine lv_iload_n hx hb dL_token_3 rfl (lv_at hl 1 rfl) ?_
        refine lv_iload_n hx hb dL_token_4 rfl (lv_at hl 2 rfl) ?_
        refine ds_calli (wc := [(d, .inr (4, [.ref ro, .ref rn, .ref rm, .ref bk, .ref uw, .ref lw, .ref tk, .int hd])), (tk, .inr (2, [.ref tK, .ref tF, .ref tL, .int (nI c)])), (tK, .inl (cI, 1200, .inl fk)), (tF, .inl (cI, 1200, .inl ff)), (tL, .inl (cI, 1200, .inl fl))]) (wr := [(ou, .inl (cL, 1, .inr (.inl fx)))]) (wo := (fun u8 : Unit => [(d, .inr (4, [.ref ro, .ref rn, .ref rm, .ref bk, .ref uw, .ref lw, .ref tk, .int hd])), (tk, .inr (2, [.ref tK, .ref tF, .ref tL, .int (nI c)])), (tK, .inl (cI, 1200, .inl fk)), (tF, .inl (cI, 1200, .inl ff)), (tL, .inl (cI, 1200, .inl fl))])) (wn := (fun u8 : Unit => [(d, .inr (4, [.ref ro, .ref rn, .ref rm, .ref bk, .ref uw, .ref lw, .ref tk, .int hd])), (tk, .inr (2, [.ref tK, .ref tF, .ref tL, .int (nI c)])), (tK, .inl (cI, 1200, .inl fk)), (tF, .inl (cI, 1200, .inl ff)), (tL, .inl (cI, 1200, .inl fl)), (ou, .inl (cL, 1, .inr (.inl fx)))])) (isC := [0, 1, 2, 3, 4]) (isR := [5]) hP hD hS hA ⟨rfl, rfl, by decide, by decide, by decide⟩ [1, 2, 3, 4, 5, 0] (by decide) (fun _ => rfl) (fun hPc hDc => va_runV (As := [.int (nI q), .int (nI 1)]) (rest := [.int (nI 0), .ref ou]) ⟨hx, hb, hml, hown, ht⟩ (c_X4_token1 Ll D cI cL d ro rn rm bk uw lw tk hd tK tF tL c fk ff fl q (by omega) (by omega) H.size) ⟨(callB_of 2 ht g_X4_token rfl rfl rfl (ht _ iw_30) (ht _ iw_289) hd_X4_token ⟨Nat.le_of_ble_eq_true rfl, Nat.le_of_ble_eq_true rfl⟩), (ht _ iw_290), (ht _ iw_291)⟩ (ds_pV hPc hDc hK (q0 := 0) rfl rfl) rfl rfl hl.1 rfl (lv_room (Nat.le_of_ble_eq_true rfl)) dL_token_5 ⟨Nat.le_of_ble_eq_true rfl, Nat.le_of_ble_eq_true rfl⟩) (fun r7 u8 H locs hp9 hP hD hS => ?_)
        have hP : va_P D vwCl [(d, .inr (4, [.ref ro, .ref rn, .ref rm, .ref bk, .ref uw, .ref lw, .ref tk, .int hd])), (tk, .inr (2, [.ref tK, .ref tF, .ref tL, .int (nI c)])), (tK, .inl (cI, 1200, .inl fk)), (tF, .inl (cI, 1200, .inl ff)), (tL, .inl (cI, 1200, .inl fl)), (ou, .inl (cL, 1, .inr (.inl fx)))] H := hP
        have hD : va_D A [(d, .inr (4, [.ref ro, .ref rn, .ref rm, .ref bk, .ref uw, .ref lw, .ref tk, .int hd])), (tk, .inr (2, [.ref tK, .ref tF, .ref tL, .int (nI c)])), (tK, .inl (cI, 1200, .inl fk)), (tF, .inl (cI, 1200, .inl ff)), (tL, .inl (cI, 1200, .inl fl)), (ou, .inl (cL, 1, .inr (.inl fx)))] := hD
        have hp9 : r7 = ff q := hp9
        replace hp9 := Eq.symm hp9
        subst hp9
        refine lv_i2l (v := (ff q).toInt64) hx hb dL_token_8 rfl ?_
        refine ds_last (k := 0) hx hb hK hP hD hS 5 rfl (by omega) (by omega) dL_token_9 (fun H locs hP hD hS => ?_)
        have hP : va_P D vwCl [(d, .inr (4, [.ref ro, .ref rn, .ref rm, .ref bk, .ref uw, .ref lw, .ref tk, .int hd])), (tk, .inr (2, [.ref tK, .ref tF, .ref tL, .int (nI c)])), (tK, .inl (cI, 1200, .inl fk)), (tF, .inl (cI, 1200, .inl ff)), (tL, .inl (cI, 1200, .inl fl)), (ou, .inl (cL, 1, .inr (.inl (vp_updL fx 0 ((ff q).toInt64)))))] H := hP
        have hD : va_D A [(d, .inr (4, [.ref ro, .ref rn, .ref rm, .ref bk, .ref uw, .ref lw, .ref tk, .int hd])), (tk, .inr (2, [.ref tK, .ref tF, .ref tL, .int (nI c)])), (tK, .inl (cI, 1200, .inl fk)), (tF, .inl (cI, 1200, .inl ff)), (tL, .inl (cI, 1200, .inl fl)), (ou, .inl (cL, 1, .inr (.inl (vp_updL fx 0 ((ff q).toInt64)))))] := hD
        refine lv_goto (tgt := 21) hx hb dL_token_10 (by decide) ?_
        refine lv_iconst (v := nI 0) hx hb dL_token_21 (by decide +kernel) ?_
        exact ds_iret hx hb hr hlk rfl (vp_updL fx 0 (ff q).toInt64) ⟨(e_token_ok hwo (iok_of hq h1)).symm, fun _ => by rw [v_token_1 (by omega)]; exact pk_uLs⟩ hP hD hS (Nat.le_of_ble_eq_true rfl) (Nat.le_of_ble_eq_true rfl) dL_token_22
      ·
        refine lv_aload_n hx hb dL_token_0 rfl (lv_at hl 3 rfl) ?_
        refine lv_iconst (v := nI 0) hx hb dL_token_1 (by decide +kernel) ?_
        refine lv_aload_n hx hb dL_token_2 rfl (lv_at hl 0 rfl) ?_
        refine lv_iload_n hx hb dL_token_3 rfl (lv_at hl 1 rfl) ?_
        refine lv_iload_n hx hb dL_token_4 rfl (lv_at hl 2 rfl) ?_
        refine ds_callXi (wc := [(d, .inr (4, [.ref ro, .ref rn, .ref rm, .ref bk, .ref uw, .ref lw, .ref tk, .int hd])), (tk, .inr (2, [.ref tK, .ref tF, .ref tL, .int (nI c)]))]) (wr := [(tK, .inl (cI, 1200, .inl fk)), (tF, .inl (cI, 1200, .inl ff)), (tL, .inl (cI, 1200, .inl fl)), (ou, .inl (cL, 1, .inr (.inl fx)))]) (wo := (fun u11 : Unit => [(d, .inr (4, [.ref ro, .ref rn, .ref rm, .ref bk, .ref uw, .ref lw, .ref tk, .int hd])), (tk, .inr (2, [.ref tK, .ref tF, .ref tL, .int (nI c)]))])) (wn := (fun u11 : Unit => [(d, .inr (4, [.ref ro, .ref rn, .ref rm, .ref bk, .ref uw, .ref lw, .ref tk, .int hd])), (tk, .inr (2, [.ref tK, .ref tF, .ref tL, .int (nI c)])), (tK, .inl (cI, 1200, .inl fk)), (tF, .inl (cI, 1200, .inl ff)), (tL, .inl (cI, 1200, .inl fl)), (ou, .inl (cL, 1, .inr (.inl fx)))])) (isC := [0, 1]) (isR := [2, 3, 4, 5]) hP hD hS hA ⟨rfl, rfl, by decide, by decide, by decide⟩ [4, 5, 0, 1, 2, 3] (by decide) (fun _ => rfl) [4, 5, 0, 1, 2, 3] rfl (fun hPc hDc hFc => vx_runV (As := [.int x, .int (nI 1)]) (rest := [.int (nI 0), .ref ou]) ⟨hx, hb, hml, hown, ht⟩ (x_X4_token_o Ll hlst D cI cL d ro rn rm bk uw lw tk hd tK tF tL c 1 x (by decide) (Classical.not_not.mp hi) H.size) ⟨(callB_of 2 ht g_X4_token rfl rfl rfl (ht _ iw_30) (ht _ iw_289) hd_X4_token ⟨Nat.le_of_ble_eq_true rfl, Nat.le_of_ble_eq_true rfl⟩), (ht _ iw_290), (ht _ iw_291)⟩ (ds_pVX hPc hDc hK hZ hS hFc (q0 := 0) rfl rfl) rfl rfl hl.1 rfl (lv_room (Nat.le_of_ble_eq_true rfl)) dL_token_5 ⟨Nat.le_of_ble_eq_true rfl, Nat.le_of_ble_eq_true rfl⟩) (fun E9 ce9 q9 H locs hpx hP hS h9 hn9 hc9 => ?_) (fun r10 u11 H locs hp12 hP hD hS => ?_)
        ·
          have hP : va_P D vwCl [(d, .inr (4, [.ref ro, .ref rn, .ref rm, .ref bk, .ref uw, .ref lw, .ref tk, .int hd])), (tk, .inr (2, [.ref tK, .ref tF, .ref tL, .int (nI c)])), (tK, .inl (cI, 1200, .inl fk)), (tF, .inl (cI, 1200, .inl ff)), (tL, .inl (cI, 1200, .inl fl)), (ou, .inl (cL, 1, .inr (.inl fx)))] H := hP
          subst hpx
          refine vx_catch (own := RL) (name := "java/lang/IndexOutOfBoundsException") hown [⟨0, 10, 13, 13⟩] ⟨0, 10, 17, 19⟩ [] (by rw [htab]; rfl) (fun z hz => by obtain rfl := List.mem_singleton.mp hz; exact Or.inr ⟨by decide, "java/lang/IllegalArgumentException", ht _ iw_377, hK.2.2.2⟩) (by decide) (by decide) (ht _ iw_378) (ncu_1 hK) h9 hn9 hc9 ?_
          refine lv_astore (lv' := [(4, .ref q9), (0, .ref d), (1, .int x), (2, .int (nI 1)), (3, .ref ou)]) hx hb dL_token_17 hl (Nat.le_of_ble_eq_true rfl) rfl (fun ls hl => ?_)
          refine lv_iconst (v := nI 2) hx hb dL_token_19 (by decide +kernel) ?_
          exact ds_iret hx hb hr hlk rfl fx ⟨(e_token_x hwo hi).symm, fun z9 => absurd (z9.symm.trans (e_token_x hwo hi)) (by decide)⟩ hP hD hS (Nat.le_of_ble_eq_true rfl) (Nat.le_of_ble_eq_true rfl) dL_token_20
        ·
          exact False.elim hp12
    ·
      have hl : lv_has ls 5 [(0, .ref d), (1, .int x), (2, .int (nI 2)), (3, .ref ou)] := hl
      by_cases hi : iok x c
      ·
        obtain ⟨q, hq, e9⟩ := iok_nat h1 hi
        subst e9
        have hl : lv_has ls 5 [(0, .ref d), (1, .int (nI q)), (2, .int (nI 2)), (3, .ref ou)] := hl
        refine lv_aload_n hx hb dL_token_0 rfl (lv_at hl 3 rfl) ?_
        refine lv_iconst (v := nI 0) hx hb dL_token_1 (by decide +kernel) ?_
        refine lv_aload_n hx hb dL_token_2 rfl (lv_at hl 0 rfl) ?_
        refine lv_iload_n hx hb dL_token_3 rfl (lv_at hl 1 rfl) ?_
        refine lv_iload_n hx hb dL_token_4 rfl (lv_at hl 2 rfl) ?_
        refine ds_calli (wc := [(d, .inr (4, [.ref ro, .ref rn, .ref rm, .ref bk, .ref uw, .ref lw, .ref tk, .int hd])), (tk, .inr (2, [.ref tK, .ref tF, .ref tL, .int (nI c)])), (tK, .inl (cI, 1200, .inl fk)), (tF, .inl (cI, 1200, .inl ff)), (tL, .inl (cI, 1200, .inl fl))]) (wr := [(ou, .inl (cL, 1, .inr (.inl fx)))]) (wo := (fun u14 : Unit => [(d, .inr (4, [.ref ro, .ref rn, .ref rm, .ref bk, .ref uw, .ref lw, .ref tk, .int hd])), (tk, .inr (2, [.ref tK, .ref tF, .ref tL, .int (nI c)])), (tK, .inl (cI, 1200, .inl fk)), (tF, .inl (cI, 1200, .inl ff)), (tL, .inl (cI, 1200, .inl fl))])) (wn := (fun u14 : Unit => [(d, .inr (4, [.ref ro, .ref rn, .ref rm, .ref bk, .ref uw, .ref lw, .ref tk, .int hd])), (tk, .inr (2, [.ref tK, .ref tF, .ref tL, .int (nI c)])), (tK, .inl (cI, 1200, .inl fk)), (tF, .inl (cI, 1200, .inl ff)), (tL, .inl (cI, 1200, .inl fl)), (ou, .inl (cL, 1, .inr (.inl fx)))])) (isC := [0, 1, 2, 3, 4]) (isR := [5]) hP hD hS hA ⟨rfl, rfl, by decide, by decide, by decide⟩ [1, 2, 3, 4, 5, 0] (by decide) (fun _ => rfl) (fun hPc hDc => va_runV (As := [.int (nI q), .int (nI 2)]) (rest := [.int (nI 0), .ref ou]) ⟨hx, hb, hml, hown, ht⟩ (c_X4_token2 Ll D cI cL d ro rn rm bk uw lw tk hd tK tF tL c fk ff fl q (by omega) (by omega) H.size) ⟨(callB_of 2 ht g_X4_token rfl rfl rfl (ht _ iw_30) (ht _ iw_289) hd_X4_token ⟨Nat.le_of_ble_eq_true rfl, Nat.le_of_ble_eq_true rfl⟩), (ht _ iw_290), (ht _ iw_291)⟩ (ds_pV hPc hDc hK (q0 := 0) rfl rfl) rfl rfl hl.1 rfl (lv_room (Nat.le_of_ble_eq_true rfl)) dL_token_5 ⟨Nat.le_of_ble_eq_true rfl, Nat.le_of_ble_eq_true rfl⟩) (fun r13 u14 H locs hp15 hP hD hS => ?_)
        have hP : va_P D vwCl [(d, .inr (4, [.ref ro, .ref rn, .ref rm, .ref bk, .ref uw, .ref lw, .ref tk, .int hd])), (tk, .inr (2, [.ref tK, .ref tF, .ref tL, .int (nI c)])), (tK, .inl (cI, 1200, .inl fk)), (tF, .inl (cI, 1200, .inl ff)), (tL, .inl (cI, 1200, .inl fl)), (ou, .inl (cL, 1, .inr (.inl fx)))] H := hP
        have hD : va_D A [(d, .inr (4, [.ref ro, .ref rn, .ref rm, .ref bk, .ref uw, .ref lw, .ref tk, .int hd])), (tk, .inr (2, [.ref tK, .ref tF, .ref tL, .int (nI c)])), (tK, .inl (cI, 1200, .inl fk)), (tF, .inl (cI, 1200, .inl ff)), (tL, .inl (cI, 1200, .inl fl)), (ou, .inl (cL, 1, .inr (.inl fx)))] := hD
        have hp15 : r13 = fl q := hp15
        replace hp15 := Eq.symm hp15
        subst hp15
        refine lv_i2l (v := (fl q).toInt64) hx hb dL_token_8 rfl ?_
        refine ds_last (k := 0) hx hb hK hP hD hS 5 rfl (by omega) (by omega) dL_token_9 (fun H locs hP hD hS => ?_)
        have hP : va_P D vwCl [(d, .inr (4, [.ref ro, .ref rn, .ref rm, .ref bk, .ref uw, .ref lw, .ref tk, .int hd])), (tk, .inr (2, [.ref tK, .ref tF, .ref tL, .int (nI c)])), (tK, .inl (cI, 1200, .inl fk)), (tF, .inl (cI, 1200, .inl ff)), (tL, .inl (cI, 1200, .inl fl)), (ou, .inl (cL, 1, .inr (.inl (vp_updL fx 0 ((fl q).toInt64)))))] H := hP
        have hD : va_D A [(d, .inr (4, [.ref ro, .ref rn, .ref rm, .ref bk, .ref uw, .ref lw, .ref tk, .int hd])), (tk, .inr (2, [.ref tK, .ref tF, .ref tL, .int (nI c)])), (tK, .inl (cI, 1200, .inl fk)), (tF, .inl (cI, 1200, .inl ff)), (tL, .inl (cI, 1200, .inl fl)), (ou, .inl (cL, 1, .inr (.inl (vp_updL fx 0 ((fl q).toInt64)))))] := hD
        refine lv_goto (tgt := 21) hx hb dL_token_10 (by decide) ?_
        refine lv_iconst (v := nI 0) hx hb dL_token_21 (by decide +kernel) ?_
        exact ds_iret hx hb hr hlk rfl (vp_updL fx 0 (fl q).toInt64) ⟨(e_token_ok hwo (iok_of hq h1)).symm, fun _ => by rw [v_token_2 (by omega)]; exact pk_uLs⟩ hP hD hS (Nat.le_of_ble_eq_true rfl) (Nat.le_of_ble_eq_true rfl) dL_token_22
      ·
        refine lv_aload_n hx hb dL_token_0 rfl (lv_at hl 3 rfl) ?_
        refine lv_iconst (v := nI 0) hx hb dL_token_1 (by decide +kernel) ?_
        refine lv_aload_n hx hb dL_token_2 rfl (lv_at hl 0 rfl) ?_
        refine lv_iload_n hx hb dL_token_3 rfl (lv_at hl 1 rfl) ?_
        refine lv_iload_n hx hb dL_token_4 rfl (lv_at hl 2 rfl) ?_
        refine ds_callXi (wc := [(d, .inr (4, [.ref ro, .ref rn, .ref rm, .ref bk, .ref uw, .ref lw, .ref tk, .int hd])), (tk, .inr (2, [.ref tK, .ref tF, .ref tL, .int (nI c)]))]) (wr := [(tK, .inl (cI, 1200, .inl fk)), (tF, .inl (cI, 1200, .inl ff)), (tL, .inl (cI, 1200, .inl fl)), (ou, .inl (cL, 1, .inr (.inl fx)))]) (wo := (fun u17 : Unit => [(d, .inr (4, [.ref ro, .ref rn, .ref rm, .ref bk, .ref uw, .ref lw, .ref tk, .int hd])), (tk, .inr (2, [.ref tK, .ref tF, .ref tL, .int (nI c)]))])) (wn := (fun u17 : Unit => [(d, .inr (4, [.ref ro, .ref rn, .ref rm, .ref bk, .ref uw, .ref lw, .ref tk, .int hd])), (tk, .inr (2, [.ref tK, .ref tF, .ref tL, .int (nI c)])), (tK, .inl (cI, 1200, .inl fk)), (tF, .inl (cI, 1200, .inl ff)), (tL, .inl (cI, 1200, .inl fl)), (ou, .inl (cL, 1, .inr (.inl fx)))])) (isC := [0, 1]) (isR := [2, 3, 4, 5]) hP hD hS hA ⟨rfl, rfl, by decide, by decide, by decide⟩ [4, 5, 0, 1, 2, 3] (by decide) (fun _ => rfl) [4, 5, 0, 1, 2, 3] rfl (fun hPc hDc hFc => vx_runV (As := [.int x, .int (nI 2)]) (rest := [.int (nI 0), .ref ou]) ⟨hx, hb, hml, hown, ht⟩ (x_X4_token_o Ll hlst D cI cL d ro rn rm bk uw lw tk hd tK tF tL c 2 x (by decide) (Classical.not_not.mp hi) H.size) ⟨(callB_of 2 ht g_X4_token rfl rfl rfl (ht _ iw_30) (ht _ iw_289) hd_X4_token ⟨Nat.le_of_ble_eq_true rfl, Nat.le_of_ble_eq_true rfl⟩), (ht _ iw_290), (ht _ iw_291)⟩ (ds_pVX hPc hDc hK hZ hS hFc (q0 := 0) rfl rfl) rfl rfl hl.1 rfl (lv_room (Nat.le_of_ble_eq_true rfl)) dL_token_5 ⟨Nat.le_of_ble_eq_true rfl, Nat.le_of_ble_eq_true rfl⟩) (fun E9 ce9 q9 H locs hpx hP hS h9 hn9 hc9 => ?_) (fun r16 u17 H locs hp18 hP hD hS => ?_)
        ·
          have hP : va_P D vwCl [(d, .inr (4, [.ref ro, .ref rn, .ref rm, .ref bk, .ref uw, .ref lw, .ref tk, .int hd])), (tk, .inr (2, [.ref tK, .ref tF, .ref tL, .int (nI c)])), (tK, .inl (cI, 1200, .inl fk)), (tF, .inl (cI, 1200, .inl ff)), (tL, .inl (cI, 1200, .inl fl)), (ou, .inl (cL, 1, .inr (.inl fx)))] H := hP
          subst hpx
          refine vx_catch (own := RL) (name := "java/lang/IndexOutOfBoundsException") hown [⟨0, 10, 13, 13⟩] ⟨0, 10, 17, 19⟩ [] (by rw [htab]; rfl) (fun z hz => by obtain rfl := List.mem_singleton.mp hz; exact Or.inr ⟨by decide, "java/lang/IllegalArgumentException", ht _ iw_377, hK.2.2.2⟩) (by decide) (by decide) (ht _ iw_378) (ncu_1 hK) h9 hn9 hc9 ?_
          refine lv_astore (lv' := [(4, .ref q9), (0, .ref d), (1, .int x), (2, .int (nI 2)), (3, .ref ou)]) hx hb dL_token_17 hl (Nat.le_of_ble_eq_true rfl) rfl (fun ls hl => ?_)
          refine lv_iconst (v := nI 2) hx hb dL_token_19 (by decide +kernel) ?_
          exact ds_iret hx hb hr hlk rfl fx ⟨(e_token_x hwo hi).symm, fun z9 => absurd (z9.symm.trans (e_token_x hwo hi)) (by decide)⟩ hP hD hS (Nat.le_of_ble_eq_true rfl) (Nat.le_of_ble_eq_true rfl) dL_token_20
        ·
          exact False.elim hp18
  ·
    refine lv_aload_n hx hb dL_token_0 rfl (lv_at hl 3 rfl) ?_
    refine lv_iconst (v := nI 0) hx hb dL_token_1 (by decide +kernel) ?_
    refine lv_aload_n hx hb dL_token_2 rfl (lv_at hl 0 rfl) ?_
    refine lv_iload_n hx hb dL_token_3 rfl (lv_at hl 1 rfl) ?_
    refine lv_iload_n hx hb dL_token_4 rfl (lv_at hl 2 rfl) ?_
    refine ds_callXi (wc := [(d, .inr (4, [.ref ro, .ref rn, .ref rm, .ref bk, .ref uw, .ref lw, .ref tk, .int hd]))]) (wr := [(tk, .inr (2, [.ref tK, .ref tF, .ref tL, .int (nI c)])), (tK, .inl (cI, 1200, .inl fk)), (tF, .inl (cI, 1200, .inl ff)), (tL, .inl (cI, 1200, .inl fl)), (ou, .inl (cL, 1, .inr (.inl fx)))]) (wo := (fun u20 : Unit => [(d, .inr (4, [.ref ro, .ref rn, .ref rm, .ref bk, .ref uw, .ref lw, .ref tk, .int hd]))])) (wn := (fun u20 : Unit => [(d, .inr (4, [.ref ro, .ref rn, .ref rm, .ref bk, .ref uw, .ref lw, .ref tk, .int hd])), (tk, .inr (2, [.ref tK, .ref tF, .ref tL, .int (nI c)])), (tK, .inl (cI, 1200, .inl fk)), (tF, .inl (cI, 1200, .inl ff)), (tL, .inl (cI, 1200, .inl fl)), (ou, .inl (cL, 1, .inr (.inl fx)))])) (isC := [0]) (isR := [1, 2, 3, 4, 5]) hP hD hS hA ⟨rfl, rfl, by decide, by decide, by decide⟩ [5, 0, 1, 2, 3, 4] (by decide) (fun _ => rfl) [5, 0, 1, 2, 3, 4] rfl (fun hPc hDc hFc => vx_runV (As := [.int x, .int y]) (rest := [.int (nI 0), .ref ou]) ⟨hx, hb, hml, hown, ht⟩ (x_X4_token_w Ll hlst D cI cL d ro rn rm bk uw lw tk hd x y (Classical.not_not.mp hw) H.size) ⟨(callB_of 2 ht g_X4_token rfl rfl rfl (ht _ iw_30) (ht _ iw_289) hd_X4_token ⟨Nat.le_of_ble_eq_true rfl, Nat.le_of_ble_eq_true rfl⟩), (ht _ iw_290), (ht _ iw_291)⟩ (ds_pVX hPc hDc hK hZ hS hFc (q0 := 0) rfl rfl) rfl rfl hl.1 rfl (lv_room (Nat.le_of_ble_eq_true rfl)) dL_token_5 ⟨Nat.le_of_ble_eq_true rfl, Nat.le_of_ble_eq_true rfl⟩) (fun E9 ce9 q9 H locs hpx hP hS h9 hn9 hc9 => ?_) (fun r19 u20 H locs hp21 hP hD hS => ?_)
    ·
      have hP : va_P D vwCl [(d, .inr (4, [.ref ro, .ref rn, .ref rm, .ref bk, .ref uw, .ref lw, .ref tk, .int hd])), (tk, .inr (2, [.ref tK, .ref tF, .ref tL, .int (nI c)])), (tK, .inl (cI, 1200, .inl fk)), (tF, .inl (cI, 1200, .inl ff)), (tL, .inl (cI, 1200, .inl fl)), (ou, .inl (cL, 1, .inr (.inl fx)))] H := hP
      subst hpx
      refine vx_catch (own := RL) (name := "java/lang/IllegalArgumentException") hown [] ⟨0, 10, 13, 13⟩ [⟨0, 10, 17, 19⟩] (by rw [htab]; rfl) (fun z hz => by cases hz) (by decide) (by decide) (ht _ iw_377) (ncu_0 hK) h9 hn9 hc9 ?_
      refine lv_astore (lv' := [(4, .ref q9), (0, .ref d), (1, .int x), (2, .int y), (3, .ref ou)]) hx hb dL_token_13 hl (Nat.le_of_ble_eq_true rfl) rfl (fun ls hl => ?_)
      refine lv_iconst (v := nI 1) hx hb dL_token_15 (by decide +kernel) ?_
      exact ds_iret hx hb hr hlk rfl fx ⟨(e_token_w hw).symm, fun z9 => absurd (z9.symm.trans (e_token_w hw)) (by decide)⟩ hP hD hS (Nat.le_of_ble_eq_true rfl) (Nat.le_of_ble_eq_true rfl) dL_token_16
    ·
      exact False.elim hp21
