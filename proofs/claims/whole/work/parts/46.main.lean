set_option maxHeartbeats 4000000 in
set_option maxRecDepth 100000 in
theorem law_main {Pp : Program} {Ll : Launch} {Ee : Env} {Ss : State} {Mm : MethodId} {Bb : List Frame} {Me : Method} {Cc : Code} {D : va_G} {cI cL : ClassId} {A : Nat → Prop} {bq L : Nat} {xs : Nat → Int32} (C9 : law_C Pp Ll Ss Mm Me Cc D cI cL A bq L xs) (hAe : ∀ q, A q → Ss.heap.size ≤ q) (d ro oo rn qn rm om bk bw bs uw lw tk tK tF tL mo aO aT aM aZ aY aK aF aL ou : Nat) : ∀ (k9 n : Nat), L - 6 * n < k9 → 6 * n ≤ L → law_H Pp Ll Ee Ss Mm Bb Me Cc D cI cL A bq d ro oo rn qn rm om bk bw bs uw lw tk tK tF tL mo aO aT aM aZ aY aK aF aL ou n := by
  intro k9
  induction k9 with
  | zero => intro n h; exact absurd h (Nat.not_lt_zero _)
  | succ k9 ih =>
    intro n hk9 hle lo fo ln fn lm fm us lsz ct fw fs uz upl ui ua ub uk ut uy lz lpl li la lb lk lt ly c fk ff fl hd er O T M Z Y gk gf gl wd fx H locs ls hR hT hDl hP hD hS hl
    have C := C9
    obtain ⟨hx, hb, hr, hml, hown, ht, hlk, hlst, hK, hZ, hX, hbl, hL, hA, hbA⟩ := C9
    refine lv_iload hx hb dL_law_23 (lv_at hl 4 rfl) ?_
    refine lv_aload_n hx hb dL_law_25 rfl (lv_at hl 0 rfl) ?_
    refine va_slen hx hb hX hbl hbA hS dL_law_26 ?_
    refine ds_top (z := nI L) rfl ?_
    refine lv_bipush (v := nI 6) hx hb dL_law_27 (by decide +kernel) ?_
    refine lv_isub hx hb dL_law_29 ?_
    refine lv_icmp_gt (tgt := 888) hx hb dL_law_30 (by decide) (fun h => ?_) (fun h => ?_)
    ·
      refine lv_iconst (v := nI 1) hx hb dL_law_888 (by decide +kernel) ?_
      refine va_forget (fun q hq => hAe _ (hS.2.2 q hq)) (W.widen (k := 1061) (n := 25717) (by omega) (by omega) ?_)
      exact lw_ret hx hb hr hlk dL_law_889
    ·
      have hn : 6 * n + 6 ≤ L := by have := mt (law_lt (L := L) (i := 6 * n) (by omega) (by omega)).mpr h; omega
      refine lv_aload_n hx hb dL_law_33 rfl (lv_at hl 0 rfl) ?_
      refine lv_iload hx hb dL_law_34 (lv_at hl 4 rfl) ?_
      refine va_sld (i := nI (6 * n)) hx hb hX hbl hbA hS (vp_in_nI (by omega) (by omega)) dL_law_36 ?_
      refine ds_top (z := xs (6 * n)) (by rw [nI_clamp (by omega)]) ?_
      refine lv_bipush (v := nI 15) hx hb dL_law_37 (by decide +kernel) ?_
      refine lv_iand hx hb dL_law_39 ?_
      obtain ⟨j, hj, ej⟩ := pk_andE (xs (6 * n)) (m := nI 15) 4 (by decide)
      refine ds_top (z := nI j) ej ?_
      have hj : j < 16 := hj
      rcases (show j = 0 ∨ j = 1 ∨ j = 2 ∨ j = 3 ∨ j = 4 ∨ j = 5 ∨ j = 6 ∨ j = 7 ∨ j = 8 ∨ j = 9 ∨ j = 10 ∨ j = 11 ∨ j = 12 ∨ j = 13 ∨ j = 14 ∨ j = 15 by omega) with rfl | rfl | rfl | rfl | rfl | rfl | rfl | rfl | rfl | rfl | rfl | rfl | rfl | rfl | rfl | rfl
      ·
        refine lv_tableIn (off := 68) (tgt := 108) hx hb dL_law_40 (by decide +kernel) (by decide +kernel) (by decide +kernel) (by decide) ?_
        exact law_c0 C d ro oo rn qn rm om bk bw bs uw lw tk tK tF tL mo aO aT aM aZ aY aK aF aL ou n hn (ih (n + 1) (by omega) (by omega)) lo fo ln fn lm fm us lsz ct fw fs uz upl ui ua ub uk ut uy lz lpl li la lb lk lt ly c fk ff fl hd er O T M Z Y gk gf gl wd fx H locs ls hR hT hDl hP hD hS (lv_sub hl [0, 1, 2, 3, 4] rfl)
      ·
        refine lv_tableIn (off := 116) (tgt := 156) hx hb dL_law_40 (by decide +kernel) (by decide +kernel) (by decide +kernel) (by decide) ?_
        exact law_c1 C d ro oo rn qn rm om bk bw bs uw lw tk tK tF tL mo aO aT aM aZ aY aK aF aL ou n hn (ih (n + 1) (by omega) (by omega)) lo fo ln fn lm fm us lsz ct fw fs uz upl ui ua ub uk ut uy lz lpl li la lb lk lt ly c fk ff fl hd er O T M Z Y gk gf gl wd fx H locs ls hR hT hDl hP hD hS (lv_sub hl [0, 1, 2, 3, 4] rfl)
      ·
        refine lv_tableIn (off := 208) (tgt := 248) hx hb dL_law_40 (by decide +kernel) (by decide +kernel) (by decide +kernel) (by decide) ?_
        exact law_c2 C d ro oo rn qn rm om bk bw bs uw lw tk tK tF tL mo aO aT aM aZ aY aK aF aL ou n hn (ih (n + 1) (by omega) (by omega)) lo fo ln fn lm fm us lsz ct fw fs uz upl ui ua ub uk ut uy lz lpl li la lb lk lt ly c fk ff fl hd er O T M Z Y gk gf gl wd fx H locs ls hR hT hDl hP hD hS (lv_sub hl [0, 1, 2, 3, 4] rfl)
      ·
        refine lv_tableIn (off := 292) (tgt := 332) hx hb dL_law_40 (by decide +kernel) (by decide +kernel) (by decide +kernel) (by decide) ?_
        exact law_c3 C d ro oo rn qn rm om bk bw bs uw lw tk tK tF tL mo aO aT aM aZ aY aK aF aL ou n hn (ih (n + 1) (by omega) (by omega)) lo fo ln fn lm fm us lsz ct fw fs uz upl ui ua ub uk ut uy lz lpl li la lb lk lt ly c fk ff fl hd er O T M Z Y gk gf gl wd fx H locs ls hR hT hDl hP hD hS (lv_sub hl [0, 1, 2, 3, 4] rfl)
      ·
        refine lv_tableIn (off := 360) (tgt := 400) hx hb dL_law_40 (by decide +kernel) (by decide +kernel) (by decide +kernel) (by decide) ?_
        exact law_c4 C d ro oo rn qn rm om bk bw bs uw lw tk tK tF tL mo aO aT aM aZ aY aK aF aL ou n hn (ih (n + 1) (by omega) (by omega)) lo fo ln fn lm fm us lsz ct fw fs uz upl ui ua ub uk ut uy lz lpl li la lb lk lt ly c fk ff fl hd er O T M Z Y gk gf gl wd fx H locs ls hR hT hDl hP hD hS (lv_sub hl [0, 1, 2, 3, 4] rfl)
      ·
        refine lv_tableIn (off := 440) (tgt := 480) hx hb dL_law_40 (by decide +kernel) (by decide +kernel) (by decide +kernel) (by decide) ?_
        exact law_c5 C d ro oo rn qn rm om bk bw bs uw lw tk tK tF tL mo aO aT aM aZ aY aK aF aL ou n hn (ih (n + 1) (by omega) (by omega)) lo fo ln fn lm fm us lsz ct fw fs uz upl ui ua ub uk ut uy lz lpl li la lb lk lt ly c fk ff fl hd er O T M Z Y gk gf gl wd fx H locs ls hR hT hDl hP hD hS (lv_sub hl [0, 1, 2, 3, 4] rfl)
      ·
        refine lv_tableIn (off := 519) (tgt := 559) hx hb dL_law_40 (by decide +kernel) (by decide +kernel) (by decide +kernel) (by decide) ?_
        exact law_c6 C d ro oo rn qn rm om bk bw bs uw lw tk tK tF tL mo aO aT aM aZ aY aK aF aL ou n hn (ih (n + 1) (by omega) (by omega)) lo fo ln fn lm fm us lsz ct fw fs uz upl ui ua ub uk ut uy lz lpl li la lb lk lt ly c fk ff fl hd er O T M Z Y gk gf gl wd fx H locs ls hR hT hDl hP hD hS (lv_sub hl [0, 1, 2, 3, 4] rfl)
      ·
        refine lv_tableIn (off := 611) (tgt := 651) hx hb dL_law_40 (by decide +kernel) (by decide +kernel) (by decide +kernel) (by decide) ?_
        exact law_c7 C d ro oo rn qn rm om bk bw bs uw lw tk tK tF tL mo aO aT aM aZ aY aK aF aL ou n hn (ih (n + 1) (by omega) (by omega)) lo fo ln fn lm fm us lsz ct fw fs uz upl ui ua ub uk ut uy lz lpl li la lb lk lt ly c fk ff fl hd er O T M Z Y gk gf gl wd fx H locs ls hR hT hDl hP hD hS (lv_sub hl [0, 1, 2, 3, 4] rfl)
      ·
        refine lv_tableIn (off := 679) (tgt := 719) hx hb dL_law_40 (by decide +kernel) (by decide +kernel) (by decide +kernel) (by decide) ?_
        exact law_c8 C d ro oo rn qn rm om bk bw bs uw lw tk tK tF tL mo aO aT aM aZ aY aK aF aL ou n hn (ih (n + 1) (by omega) (by omega)) lo fo ln fn lm fm us lsz ct fw fs uz upl ui ua ub uk ut uy lz lpl li la lb lk lt ly c fk ff fl hd er O T M Z Y gk gf gl wd fx H locs ls hR hT hDl hP hD hS (lv_sub hl [0, 1, 2, 3, 4] rfl)
      ·
        refine lv_tableIn (off := 747) (tgt := 787) hx hb dL_law_40 (by decide +kernel) (by decide +kernel) (by decide +kernel) (by decide) ?_
        exact law_c9 C d ro oo rn qn rm om bk bw bs uw lw tk tK tF tL mo aO aT aM aZ aY aK aF aL ou n hn (ih (n + 1) (by omega) (by omega)) lo fo ln fn lm fm us lsz ct fw fs uz upl ui ua ub uk ut uy lz lpl li la lb lk lt ly c fk ff fl hd er O T M Z Y gk gf gl wd fx H locs ls hR hT hDl hP hD hS (lv_sub hl [0, 1, 2, 3, 4] rfl)
      ·
        refine lv_tableIn (off := 760) (tgt := 800) hx hb dL_law_40 (by decide +kernel) (by decide +kernel) (by decide +kernel) (by decide) ?_
        exact law_c10 C d ro oo rn qn rm om bk bw bs uw lw tk tK tF tL mo aO aT aM aZ aY aK aF aL ou n hn (ih (n + 1) (by omega) (by omega)) lo fo ln fn lm fm us lsz ct fw fs uz upl ui ua ub uk ut uy lz lpl li la lb lk lt ly c fk ff fl hd er O T M Z Y gk gf gl wd fx H locs ls hR hT hDl hP hD hS (lv_sub hl [0, 1, 2, 3, 4] rfl)
      ·
        refine lv_tableIn (off := 773) (tgt := 813) hx hb dL_law_40 (by decide +kernel) (by decide +kernel) (by decide +kernel) (by decide) ?_
        exact law_c11 C d ro oo rn qn rm om bk bw bs uw lw tk tK tF tL mo aO aT aM aZ aY aK aF aL ou n hn (ih (n + 1) (by omega) (by omega)) lo fo ln fn lm fm us lsz ct fw fs uz upl ui ua ub uk ut uy lz lpl li la lb lk lt ly c fk ff fl hd er O T M Z Y gk gf gl wd fx H locs ls hR hT hDl hP hD hS (lv_sub hl [0, 1, 2, 3, 4] rfl)
      ·
        refine lv_tableIn (off := 786) (tgt := 826) hx hb dL_law_40 (by decide +kernel) (by decide +kernel) (by decide +kernel) (by decide) ?_
        exact law_c12 C d ro oo rn qn rm om bk bw bs uw lw tk tK tF tL mo aO aT aM aZ aY aK aF aL ou n hn (ih (n + 1) (by omega) (by omega)) lo fo ln fn lm fm us lsz ct fw fs uz upl ui ua ub uk ut uy lz lpl li la lb lk lt ly c fk ff fl hd er O T M Z Y gk gf gl wd fx H locs ls hR hT hDl hP hD hS (lv_sub hl [0, 1, 2, 3, 4] rfl)
      ·
        refine lv_tableOut (tgt := 882) hx hb dL_law_40 (by decide +kernel) (by decide) ?_
        refine lv_iinc (k := 4) (v := nI ((6 * n) + 6)) (lv' := [(4, .int (nI ((6 * n) + 6))), (0, .ref bq), (1, .ref d), (2, .ref mo), (3, .ref ou)]) hx hb dL_law_882 hl rfl (by rw [← nI_add]; rfl) (Nat.le_of_ble_eq_true rfl) rfl (fun ls hl => ?_)
        refine lv_goto (tgt := 23) hx hb dL_law_885 (by decide) ?_
        refine W.widen (k := 26 + (n + 1)) (n := 17459 + 6 * (n + 1)) (by omega) (by omega) ?_
        have hl : lv_has ls 8 [(4, .int (nI (6 * (n + 1)))), (0, .ref bq), (1, .ref d), (2, .ref mo), (3, .ref ou)] := by rw [show 6 * (n + 1) = 6 * n + 6 by omega]; exact hl
        exact ih (n + 1) (by omega) (by omega) lo fo ln fn lm fm us lsz ct fw fs uz upl ui ua ub uk ut uy lz lpl li la lb lk lt ly c fk ff fl hd er O T M Z Y gk gf gl wd fx H locs ls hR hT hDl hP hD hS (lv_sub hl [1, 2, 3, 4, 0] rfl)
      ·
        refine lv_tableOut (tgt := 882) hx hb dL_law_40 (by decide +kernel) (by decide) ?_
        refine lv_iinc (k := 4) (v := nI ((6 * n) + 6)) (lv' := [(4, .int (nI ((6 * n) + 6))), (0, .ref bq), (1, .ref d), (2, .ref mo), (3, .ref ou)]) hx hb dL_law_882 hl rfl (by rw [← nI_add]; rfl) (Nat.le_of_ble_eq_true rfl) rfl (fun ls hl => ?_)
        refine lv_goto (tgt := 23) hx hb dL_law_885 (by decide) ?_
        refine W.widen (k := 26 + (n + 1)) (n := 17459 + 6 * (n + 1)) (by omega) (by omega) ?_
        have hl : lv_has ls 8 [(4, .int (nI (6 * (n + 1)))), (0, .ref bq), (1, .ref d), (2, .ref mo), (3, .ref ou)] := by rw [show 6 * (n + 1) = 6 * n + 6 by omega]; exact hl
        exact ih (n + 1) (by omega) (by omega) lo fo ln fn lm fm us lsz ct fw fs uz upl ui ua ub uk ut uy lz lpl li la lb lk lt ly c fk ff fl hd er O T M Z Y gk gf gl wd fx H locs ls hR hT hDl hP hD hS (lv_sub hl [1, 2, 3, 4, 0] rfl)
      ·
        refine lv_tableOut (tgt := 882) hx hb dL_law_40 (by decide +kernel) (by decide) ?_
        refine lv_iinc (k := 4) (v := nI ((6 * n) + 6)) (lv' := [(4, .int (nI ((6 * n) + 6))), (0, .ref bq), (1, .ref d), (2, .ref mo), (3, .ref ou)]) hx hb dL_law_882 hl rfl (by rw [← nI_add]; rfl) (Nat.le_of_ble_eq_true rfl) rfl (fun ls hl => ?_)
        refine lv_goto (tgt := 23) hx hb dL_law_885 (by decide) ?_
        refine W.widen (k := 26 + (n + 1)) (n := 17459 + 6 * (n + 1)) (by omega) (by omega) ?_
        have hl : lv_has ls 8 [(4, .int (nI (6 * (n + 1)))), (0, .ref bq), (1, .ref d), (2, .ref mo), (3, .ref ou)] := by rw [show 6 * (n + 1) = 6 * n + 6 by omega]; exact hl
        exact ih (n + 1) (by omega) (by omega) lo fo ln fn lm fm us lsz ct fw fs uz upl ui ua ub uk ut uy lz lpl li la lb lk lt ly c fk ff fl hd er O T M Z Y gk gf gl wd fx H locs ls hR hT hDl hP hD hS (lv_sub hl [1, 2, 3, 4, 0] rfl)
