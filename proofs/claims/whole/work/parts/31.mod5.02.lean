set_option maxHeartbeats 4000000 in
set_option maxRecDepth 100000 in
theorem c_X5_patch (Ll : Launch) (D : va_G) (cI cL : ClassId) (mo : Nat) (aO : Nat) (aT : Nat) (aM : Nat) (aZ : Nat) (aY : Nat) (aK : Nat) (aF : Nat) (aL : Nat) (er : Int32) (c : Nat) (isd : Int32) (wd : Int32) (O : Nat → Int32) (T : Nat → Int32) (M : Nat → Int32) (Z : Nat → Int32) (Y : Nat → Int32) (gk : Nat → Int32) (gf : Nat → Int32) (gl : Nat → Int32) (fk : Nat → Int32) (ff : Nat → Int32) (fl : Nat → Int32) (lo : Nat) (ln : Nat) (lm : Nat) (fo : Nat → Int32) (fn : Nat → Int32) (fm : Nat → Int32) (hR : mR lo ln fo fn O Z) (hT : mT c fk ff fl gk gf gl) (hDl : mD isd lm c fm fk ff fl T Y wd) (sz : Nat) : Met Ll yX5_patch wsX5_patch { frames := 0, cells := 0, slots := 0, locals := 0 } (ds_P D cI cL [.ref mo] [(mo, .inr (5, [.int er, .ref aO, .ref aT, .ref aM, .ref aZ, .ref aY, .ref aK, .ref aF, .ref aL, .int (nI c), .int isd, .int wd])), (aO, .inl (cI, 2400, .inl O)), (aT, .inl (cI, 2400, .inl T)), (aM, .inl (cI, 1200, .inl M)), (aZ, .inl (cI, 2, .inl Z)), (aY, .inl (cI, 2, .inl Y)), (aK, .inl (cI, 1200, .inl gk)), (aF, .inl (cI, 1200, .inl gf)), (aL, .inl (cI, 1200, .inl gl))] sz) (ds_Qi D (fun (r : Int32) (u : (Nat → Int32) × (Nat → Int32) × (Nat → Int32)) => (isd = 0 ∧ r = 0 ∧ u = (O, M, Z)) ∨ (isd = 1 ∧ r = nI lm ∧ mR lm ln (va_cpy fm fo 0 0 lm) fn u.1 u.2.2)) (fun u : (Nat → Int32) × (Nat → Int32) × (Nat → Int32) => [(mo, .inr (5, [.int (nI 0), .ref aO, .ref aT, .ref aM, .ref aZ, .ref aY, .ref aK, .ref aF, .ref aL, .int (nI c), .int isd, .int wd])), (aO, .inl (cI, 2400, .inl u.1)), (aT, .inl (cI, 2400, .inl T)), (aM, .inl (cI, 1200, .inl u.2.1)), (aZ, .inl (cI, 2, .inl u.2.2)), (aY, .inl (cI, 2, .inl Y)), (aK, .inl (cI, 1200, .inl gk)), (aF, .inl (cI, 1200, .inl gf)), (aL, .inl (cI, 1200, .inl gl))]) (va_A [(mo, .inr (5, [.int er, .ref aO, .ref aT, .ref aM, .ref aZ, .ref aY, .ref aK, .ref aF, .ref aL, .int (nI c), .int isd, .int wd])), (aO, .inl (cI, 2400, .inl O)), (aT, .inl (cI, 2400, .inl T)), (aM, .inl (cI, 1200, .inl M)), (aZ, .inl (cI, 2, .inl Z)), (aY, .inl (cI, 2, .inl Y)), (aK, .inl (cI, 1200, .inl gk)), (aF, .inl (cI, 1200, .inl gf)), (aL, .inl (cI, 1200, .inl gl))] sz)) 0 0 (va_A [(mo, .inr (5, [.int er, .ref aO, .ref aT, .ref aM, .ref aZ, .ref aY, .ref aK, .ref aF, .ref aL, .int (nI c), .int isd, .int wd])), (aO, .inl (cI, 2400, .inl O)), (aT, .inl (cI, 2400, .inl T)), (aM, .inl (cI, 1200, .inl M)), (aZ, .inl (cI, 2, .inl Z)), (aY, .inl (cI, 2, .inl Y)), (aK, .inl (cI, 1200, .inl gk)), (aF, .inl (cI, 1200, .inl gf)), (aL, .inl (cI, 1200, .inl gl))] sz) := by
  refine ds_enter (Qf := (fun A9 => ds_Qi D (fun (r : Int32) (u : (Nat → Int32) × (Nat → Int32) × (Nat → Int32)) => (isd = 0 ∧ r = 0 ∧ u = (O, M, Z)) ∨ (isd = 1 ∧ r = nI lm ∧ mR lm ln (va_cpy fm fo 0 0 lm) fn u.1 u.2.2)) (fun u : (Nat → Int32) × (Nat → Int32) × (Nat → Int32) => [(mo, .inr (5, [.int (nI 0), .ref aO, .ref aT, .ref aM, .ref aZ, .ref aY, .ref aK, .ref aF, .ref aL, .int (nI c), .int isd, .int wd])), (aO, .inl (cI, 2400, .inl u.1)), (aT, .inl (cI, 2400, .inl T)), (aM, .inl (cI, 1200, .inl u.2.1)), (aZ, .inl (cI, 2, .inl u.2.2)), (aY, .inl (cI, 2, .inl Y)), (aK, .inl (cI, 1200, .inl gk)), (aF, .inl (cI, 1200, .inl gf)), (aL, .inl (cI, 1200, .inl gl))]) A9)) (cc := cX5_patch) (maxL := 6) (ret := (some .int)) (by decide) rfl (Nat.le_of_ble_eq_true rfl) ?_
  intro Pp Ee Ss Mm Aa Bb Me Cc hx hb hml hr ht hown hlk hnm A H locs hA hP hD hS hK ls hl
  have hl : lv_has ls 6 [(0, .ref mo)] := hl
  change Ss.vm.findClass RX5 = some Mm.cls at hown
  by_cases hi0 : isd = 0
  ·
    subst hi0
    refine lv_aload_n hx hb dX5_patch_0 rfl (lv_at hl 0 rfl) ?_
    refine lv_iconst (v := nI 0) hx hb dX5_patch_1 (by decide +kernel) ?_
    refine va_put (D := D) (ci := 5) (v := .int (nI 0)) (ty := .int) (C := RX5) (T := TX5) (N := 12) hx hb ht inA_X5 tyX5 tyX5_ok nmX5 hown hK.1 hP hD hS 0 rfl rfl 0 (by decide) (ht _ iw_131) (fun _ h9 => h9) rfl (by decide +kernel) rfl rfl (Nat.le_of_ble_eq_true rfl) dX5_patch_2 (fun H locs hP hD hS => ?_)
    have hP : va_P D vwCl [(mo, .inr (5, [.int (nI 0), .ref aO, .ref aT, .ref aM, .ref aZ, .ref aY, .ref aK, .ref aF, .ref aL, .int (nI c), .int (0 : Int32), .int wd])), (aO, .inl (cI, 2400, .inl O)), (aT, .inl (cI, 2400, .inl T)), (aM, .inl (cI, 1200, .inl M)), (aZ, .inl (cI, 2, .inl Z)), (aY, .inl (cI, 2, .inl Y)), (aK, .inl (cI, 1200, .inl gk)), (aF, .inl (cI, 1200, .inl gf)), (aL, .inl (cI, 1200, .inl gl))] H := hP
    have hD : va_D A [(mo, .inr (5, [.int (nI 0), .ref aO, .ref aT, .ref aM, .ref aZ, .ref aY, .ref aK, .ref aF, .ref aL, .int (nI c), .int (0 : Int32), .int wd])), (aO, .inl (cI, 2400, .inl O)), (aT, .inl (cI, 2400, .inl T)), (aM, .inl (cI, 1200, .inl M)), (aZ, .inl (cI, 2, .inl Z)), (aY, .inl (cI, 2, .inl Y)), (aK, .inl (cI, 1200, .inl gk)), (aF, .inl (cI, 1200, .inl gf)), (aL, .inl (cI, 1200, .inl gl))] := hD
    refine lv_aload_n hx hb dX5_patch_5 rfl (lv_at hl 0 rfl) ?_
    refine va_get (D := D) (ci := 5) (v := .int (0 : Int32)) (C := RX5) (T := TX5) (N := 12) hx hb ht inA_X5 hown hK.1 hP 0 rfl rfl 10 (by decide) (ht _ iw_179) (fun _ h9 => h9) rfl dX5_patch_6 ?_
    refine lv_if_ne (tgt := 14) hx hb dX5_patch_9 (by decide) (fun h => ?_) (fun h => ?_)
    ·
      exact absurd rfl h
    ·
      refine lv_iconst (v := nI 0) hx hb dX5_patch_12 (by decide +kernel) ?_
      exact ds_iret hx hb hr hlk rfl (O, M, Z) (Or.inl ⟨rfl, rfl, rfl⟩) hP hD hS (Nat.le_of_ble_eq_true rfl) (Nat.le_of_ble_eq_true rfl) dX5_patch_13
  ·
    obtain ⟨e1, hlm, l0, l1, s, bf, K, a, n, e2, hY, g1, g2, g3, g4, hTI⟩ := hDl.resolve_left hi0
    subst e1 e2
    obtain ⟨t1, t2, t3, -⟩ := hTI
    have hc1 := hT.1
    have hb3 := bn_300 g1 g3
    change ∀ j, j < c → tkv l0 l1 s fk ff fl K a n j at t1
    change ∀ j, j < c → sgv T l0 s fm K a n j at t2
    change sgO s l0 K a n c = lm at t3
    refine lv_aload_n hx hb dX5_patch_0 rfl (lv_at hl 0 rfl) ?_
    refine lv_iconst (v := nI 0) hx hb dX5_patch_1 (by decide +kernel) ?_
    refine va_put (D := D) (ci := 5) (v := .int (nI 0)) (ty := .int) (C := RX5) (T := TX5) (N := 12) hx hb ht inA_X5 tyX5 tyX5_ok nmX5 hown hK.1 hP hD hS 0 rfl rfl 0 (by decide) (ht _ iw_131) (fun _ h9 => h9) rfl (by decide +kernel) rfl rfl (Nat.le_of_ble_eq_true rfl) dX5_patch_2 (fun H locs hP hD hS => ?_)
    have hP : va_P D vwCl [(mo, .inr (5, [.int (nI 0), .ref aO, .ref aT, .ref aM, .ref aZ, .ref aY, .ref aK, .ref aF, .ref aL, .int (nI c), .int (1 : Int32), .int (nI s)])), (aO, .inl (cI, 2400, .inl O)), (aT, .inl (cI, 2400, .inl T)), (aM, .inl (cI, 1200, .inl M)), (aZ, .inl (cI, 2, .inl Z)), (aY, .inl (cI, 2, .inl Y)), (aK, .inl (cI, 1200, .inl gk)), (aF, .inl (cI, 1200, .inl gf)), (aL, .inl (cI, 1200, .inl gl))] H := hP
    have hD : va_D A [(mo, .inr (5, [.int (nI 0), .ref aO, .ref aT, .ref aM, .ref aZ, .ref aY, .ref aK, .ref aF, .ref aL, .int (nI c), .int (1 : Int32), .int (nI s)])), (aO, .inl (cI, 2400, .inl O)), (aT, .inl (cI, 2400, .inl T)), (aM, .inl (cI, 1200, .inl M)), (aZ, .inl (cI, 2, .inl Z)), (aY, .inl (cI, 2, .inl Y)), (aK, .inl (cI, 1200, .inl gk)), (aF, .inl (cI, 1200, .inl gf)), (aL, .inl (cI, 1200, .inl gl))] := hD
    refine lv_aload_n hx hb dX5_patch_5 rfl (lv_at hl 0 rfl) ?_
    refine va_get (D := D) (ci := 5) (v := .int (1 : Int32)) (C := RX5) (T := TX5) (N := 12) hx hb ht inA_X5 hown hK.1 hP 0 rfl rfl 10 (by decide) (ht _ iw_179) (fun _ h9 => h9) rfl dX5_patch_6 ?_
    refine lv_if_ne (tgt := 14) hx hb dX5_patch_9 (by decide) (fun h => ?_) (fun h => ?_)
    ·
      refine lv_iconst (v := nI 0) hx hb dX5_patch_14 (by decide +kernel) ?_
      refine lv_istore_n (lv' := [(1, .int (nI 0)), (0, .ref mo)]) hx hb dX5_patch_15 rfl hl (Nat.le_of_ble_eq_true rfl) rfl (fun ls hl => ?_)
      refine lv_iconst (v := nI 0) hx hb dX5_patch_16 (by decide +kernel) ?_
      refine lv_istore_n (lv' := [(2, .int (nI 0)), (1, .int (nI 0)), (0, .ref mo)]) hx hb dX5_patch_17 rfl hl (Nat.le_of_ble_eq_true rfl) rfl (fun ls hl => ?_)
      have loop1 : ∀ (k2 : Nat) (k : Nat) (M1 : Nat → Int32) (H : Heap) (locs : List Loc) (ls : Array Slot), (k ≤ c) → (∀ x, x < sgO s l0 K a n k → M1 x = fm x) → c - k < k2 → va_P D vwCl [(mo, .inr (5, [.int (nI 0), .ref aO, .ref aT, .ref aM, .ref aZ, .ref aY, .ref aK, .ref aF, .ref aL, .int (nI c), .int 1, .int (nI s)])), (aO, .inl (cI, 2400, .inl O)), (aT, .inl (cI, 2400, .inl T)), (aM, .inl (cI, 1200, .inl M1)), (aZ, .inl (cI, 2, .inl Z)), (aY, .inl (cI, 2, .inl Y)), (aK, .inl (cI, 1200, .inl gk)), (aF, .inl (cI, 1200, .inl gf)), (aL, .inl (cI, 1200, .inl gl))] H → va_D A [(mo, .inr (5, [.int (nI 0), .ref aO, .ref aT, .ref aM, .ref aZ, .ref aY, .ref aK, .ref aF, .ref aL, .int (nI c), .int 1, .int (nI s)])), (aO, .inl (cI, 2400, .inl O)), (aT, .inl (cI, 2400, .inl T)), (aM, .inl (cI, 1200, .inl M1)), (aZ, .inl (cI, 2, .inl Z)), (aY, .inl (cI, 2, .inl Y)), (aK, .inl (cI, 1200, .inl gk)), (aF, .inl (cI, 1200, .inl gf)), (aL, .inl (cI, 1200, .inl gl))] → va_S A Ss.heap H locs → lv_has ls 6 [(0, .ref mo), (1, .int (nI (sgO s l0 K a n k))), (2, .int (nI k))] → W Pp Ll Ee { frames := 0, cells := 0, slots := 0, locals := 0 } Ss Mm Aa Bb Me Cc H locs 0 0 (MQ Bb (ds_Qi D (fun (r : Int32) (u : (Nat → Int32) × (Nat → Int32) × (Nat → Int32)) => ((1 : Int32) = 0 ∧ r = 0 ∧ u = (O, M, Z)) ∨ ((1 : Int32) = 1 ∧ r = nI lm ∧ mR lm ln (va_cpy fm fo 0 0 lm) fn u.1 u.2.2)) (fun u : (Nat → Int32) × (Nat → Int32) × (Nat → Int32) => [(mo, .inr (5, [.int (nI 0), .ref aO, .ref aT, .ref aM, .ref aZ, .ref aY, .ref aK, .ref aF, .ref aL, .int (nI c), .int (1 : Int32), .int (nI s)])), (aO, .inl (cI, 2400, .inl u.1)), (aT, .inl (cI, 2400, .inl T)), (aM, .inl (cI, 1200, .inl u.2.1)), (aZ, .inl (cI, 2, .inl u.2.2)), (aY, .inl (cI, 2, .inl Y)), (aK, .inl (cI, 1200, .inl gk)), (aF, .inl (cI, 1200, .inl gf)), (aL, .inl (cI, 1200, .inl gl))]) A) Aa Ss 0 0 A) (F0 Mm 18 ls []) := by
        intro k2
        induction k2 with
        | zero => intro k M1 H locs ls hk hM hm4; exact absurd hm4 (Nat.not_lt_zero _)
        | succ k2 ih3 =>
          intro k M1 H locs ls hk hM hm4 hP hD hS hl
          refine lv_iload_n hx hb dX5_patch_18 rfl (lv_at hl 2 rfl) ?_
          refine lv_aload_n hx hb dX5_patch_19 rfl (lv_at hl 0 rfl) ?_
          refine va_get (D := D) (ci := 5) (v := .int (nI c)) (C := RX5) (T := TX5) (N := 12) hx hb ht inA_X5 hown hK.1 hP 0 rfl rfl 9 (by decide) (ht _ iw_180) (fun _ h9 => h9) rfl dX5_patch_20 ?_
          refine lv_icmp_ge (tgt := 175) hx hb dX5_patch_23 (by decide) (fun h => ?_) (fun h => ?_)
          ·
            have h : c ≤ k := (nI_leI (a := c) (b := k) (by omega) (by omega)).mp h
            have e9 : c = k := (by omega)
            subst e9
            refine lv_iconst (v := nI 0) hx hb dX5_patch_175 (by decide +kernel) ?_
            refine lv_istore_n (lv' := [(2, .int (nI 0)), (0, .ref mo), (1, .int (nI (sgO s l0 K a n c)))]) hx hb dX5_patch_176 rfl hl (Nat.le_of_ble_eq_true rfl) rfl (fun ls hl => ?_)
            have hl : lv_has ls 6 [(2, .int (nI 0)), (0, .ref mo), (1, .int (nI lm))] := by rw [← t3]; exact hl
            have hP : va_P D vwCl [(mo, .inr (5, [.int (nI 0), .ref aO, .ref aT, .ref aM, .ref aZ, .ref aY, .ref aK, .ref aF, .ref aL, .int (nI c), .int 1, .int (nI s)])), (aO, .inl (cI, 2400, .inl (va_cpy M1 O 0 0 0))), (aT, .inl (cI, 2400, .inl T)), (aM, .inl (cI, 1200, .inl M1)), (aZ, .inl (cI, 2, .inl Z)), (aY, .inl (cI, 2, .inl Y)), (aK, .inl (cI, 1200, .inl gk)), (aF, .inl (cI, 1200, .inl gf)), (aL, .inl (cI, 1200, .inl gl))] H := by rw [cpy_0]; exact hP
            have hD : va_D A [(mo, .inr (5, [.int (nI 0), .ref aO, .ref aT, .ref aM, .ref aZ, .ref aY, .ref aK, .ref aF, .ref aL, .int (nI c), .int 1, .int (nI s)])), (aO, .inl (cI, 2400, .inl (va_cpy M1 O 0 0 0))), (aT, .inl (cI, 2400, .inl T)), (aM, .inl (cI, 1200, .inl M1)), (aZ, .inl (cI, 2, .inl Z)), (aY, .inl (cI, 2, .inl Y)), (aK, .inl (cI, 1200, .inl gk)), (aF, .inl (cI, 1200, .inl gf)), (aL, .inl (cI, 1200, .inl gl))] := by rw [cpy_0]; exact hD
            have loop5 : ∀ (k6 : Nat) (i : Nat) (H : Heap) (locs : List Loc) (ls : Array Slot), (i ≤ lm) → lm - i < k6 → va_P D vwCl [(mo, .inr (5, [.int (nI 0), .ref aO, .ref aT, .ref aM, .ref aZ, .ref aY, .ref aK, .ref aF, .ref aL, .int (nI c), .int 1, .int (nI s)])), (aO, .inl (cI, 2400, .inl (va_cpy M1 O 0 0 i))), (aT, .inl (cI, 2400, .inl T)), (aM, .inl (cI, 1200, .inl M1)), (aZ, .inl (cI, 2, .inl Z)), (aY, .inl (cI, 2, .inl Y)), (aK, .inl (cI, 1200, .inl gk)), (aF, .inl (cI, 1200, .inl gf)), (aL, .inl (cI, 1200, .inl gl))] H → va_D A [(mo, .inr (5, [.int (nI 0), .ref aO, .ref aT, .ref aM, .ref aZ, .ref aY, .ref aK, .ref aF, .ref aL, .int (nI c), .int 1, .int (nI s)])), (aO, .inl (cI, 2400, .inl (va_cpy M1 O 0 0 i))), (aT, .inl (cI, 2400, .inl T)), (aM, .inl (cI, 1200, .inl M1)), (aZ, .inl (cI, 2, .inl Z)), (aY, .inl (cI, 2, .inl Y)), (aK, .inl (cI, 1200, .inl gk)), (aF, .inl (cI, 1200, .inl gf)), (aL, .inl (cI, 1200, .inl gl))] → va_S A Ss.heap H locs → lv_has ls 6 [(0, .ref mo), (1, .int (nI lm)), (2, .int (nI i))] → W Pp Ll Ee { frames := 0, cells := 0, slots := 0, locals := 0 } Ss Mm Aa Bb Me Cc H locs 0 0 (MQ Bb (ds_Qi D (fun (r : Int32) (u : (Nat → Int32) × (Nat → Int32) × (Nat → Int32)) => ((1 : Int32) = 0 ∧ r = 0 ∧ u = (O, M, Z)) ∨ ((1 : Int32) = 1 ∧ r = nI lm ∧ mR lm ln (va_cpy fm fo 0 0 lm) fn u.1 u.2.2)) (fun u : (Nat → Int32) × (Nat → Int32) × (Nat → Int32) => [(mo, .inr (5, [.int (nI 0), .ref aO, .ref aT, .ref aM, .ref aZ, .ref aY, .ref aK, .ref aF, .ref aL, .int (nI c), .int (1 : Int32), .int (nI s)])), (aO, .inl (cI, 2400, .inl u.1)), (aT, .inl (cI, 2400, .inl T)), (aM, .inl (cI, 1200, .inl u.2.1)), (aZ, .inl (cI, 2, .inl u.2.2)), (aY, .inl (cI, 2, .inl Y)), (aK, .inl (cI, 1200, .inl gk)), (aF, .inl (cI, 1200, .inl gf)), (aL, .inl (cI, 1200, .inl gl))]) A) Aa Ss 0 0 A) (F0 Mm 177 ls []) := by
              intro k6
              induction k6 with
              | zero => intro i H locs ls hi hm8; exact absurd hm8 (Nat.not_lt_zero _)
              | succ k6 ih7 =>
                intro i H locs ls hi hm8 hP hD hS hl
                refine lv_iload_n hx hb dX5_patch_177 rfl (lv_at hl 2 rfl) ?_
                refine lv_iload_n hx hb dX5_patch_178 rfl (lv_at hl 1 rfl) ?_
                refine lv_icmp_ge (tgt := 200) hx hb dX5_patch_179 (by decide) (fun h => ?_) (fun h => ?_)
                ·
                  have h : lm ≤ i := (nI_leI (a := lm) (b := i) (by omega) (by omega)).mp h
                  have e9 : lm = i := (by omega)
                  subst e9
                  refine lv_aload_n hx hb dX5_patch_200 rfl (lv_at hl 0 rfl) ?_
                  refine va_get (D := D) (ci := 5) (v := .ref aZ) (C := RX5) (T := TX5) (N := 12) hx hb ht inA_X5 hown hK.1 hP 0 rfl rfl 4 (by decide) (ht _ iw_125) (fun _ h9 => h9) rfl dX5_patch_201 ?_
                  refine lv_iconst (v := nI 0) hx hb dX5_patch_204 (by decide +kernel) ?_
                  refine lv_iload_n hx hb dX5_patch_205 rfl (lv_at hl 1 rfl) ?_
                  refine ds_iast (k := 0) hx hb hK hP hD hS 4 rfl (by omega) (by omega) dX5_patch_206 (fun H locs hP hD hS => ?_)
                  have hP : va_P D vwCl [(mo, .inr (5, [.int (nI 0), .ref aO, .ref aT, .ref aM, .ref aZ, .ref aY, .ref aK, .ref aF, .ref aL, .int (nI c), .int 1, .int (nI s)])), (aO, .inl (cI, 2400, .inl (va_cpy M1 O 0 0 lm))), (aT, .inl (cI, 2400, .inl T)), (aM, .inl (cI, 1200, .inl M1)), (aZ, .inl (cI, 2, .inl (upd Z 0 (nI lm)))), (aY, .inl (cI, 2, .inl Y)), (aK, .inl (cI, 1200, .inl gk)), (aF, .inl (cI, 1200, .inl gf)), (aL, .inl (cI, 1200, .inl gl))] H := hP
                  have hD : va_D A [(mo, .inr (5, [.int (nI 0), .ref aO, .ref aT, .ref aM, .ref aZ, .ref aY, .ref aK, .ref aF, .ref aL, .int (nI c), .int 1, .int (nI s)])), (aO, .inl (cI, 2400, .inl (va_cpy M1 O 0 0 lm))), (aT, .inl (cI, 2400, .inl T)), (aM, .inl (cI, 1200, .inl M1)), (aZ, .inl (cI, 2, .inl (upd Z 0 (nI lm)))), (aY, .inl (cI, 2, .inl Y)), (aK, .inl (cI, 1200, .inl gk)), (aF, .inl (cI, 1200, .inl gf)), (aL, .inl (cI, 1200, .inl gl))] := hD
                  refine lv_iload_n hx hb dX5_patch_207 rfl (lv_at hl 1 rfl) ?_
                  exact ds_iret hx hb hr hlk rfl (va_cpy M1 O 0 0 lm, M1, upd Z 0 (nI lm)) (Or.inr ⟨rfl, rfl, mR_patch hR hlm (fun x hx => hM x (by rw [t3]; exact hx))⟩) hP hD hS (Nat.le_of_ble_eq_true rfl) (Nat.le_of_ble_eq_true rfl) dX5_patch_208
                ·
                  have h : ¬ lm ≤ i := fun z9 => h ((nI_leI (a := lm) (b := i) (by omega) (by omega)).mpr z9)
                  refine lv_aload_n hx hb dX5_patch_182 rfl (lv_at hl 0 rfl) ?_
                  refine va_get (D := D) (ci := 5) (v := .ref aO) (C := RX5) (T := TX5) (N := 12) hx hb ht inA_X5 hown hK.1 hP 0 rfl rfl 1 (by decide) (ht _ iw_122) (fun _ h9 => h9) rfl dX5_patch_183 ?_
                  refine lv_iload_n hx hb dX5_patch_186 rfl (lv_at hl 2 rfl) ?_
                  refine lv_aload_n hx hb dX5_patch_187 rfl (lv_at hl 0 rfl) ?_
                  refine va_get (D := D) (ci := 5) (v := .ref aM) (C := RX5) (T := TX5) (N := 12) hx hb ht inA_X5 hown hK.1 hP 0 rfl rfl 3 (by decide) (ht _ iw_124) (fun _ h9 => h9) rfl dX5_patch_188 ?_
                  refine lv_iload_n hx hb dX5_patch_191 rfl (lv_at hl 2 rfl) ?_
                  refine ds_iald (k := i) hx hb hK hP 3 rfl (by omega) (by omega) dX5_patch_192 ?_
                  refine ds_iast (k := i) hx hb hK hP hD hS 1 rfl (by omega) (by omega) dX5_patch_193 (fun H locs hP hD hS => ?_)
                  have hP : va_P D vwCl [(mo, .inr (5, [.int (nI 0), .ref aO, .ref aT, .ref aM, .ref aZ, .ref aY, .ref aK, .ref aF, .ref aL, .int (nI c), .int 1, .int (nI s)])), (aO, .inl (cI, 2400, .inl (upd (va_cpy M1 O 0 0 i) i (M1 i)))), (aT, .inl (cI, 2400, .inl T)), (aM, .inl (cI, 1200, .inl M1)), (aZ, .inl (cI, 2, .inl Z)), (aY, .inl (cI, 2, .inl Y)), (aK, .inl (cI, 1200, .inl gk)), (aF, .inl (cI, 1200, .inl gf)), (aL, .inl (cI, 1200, .inl gl))] H := hP
                  have hD : va_D A [(mo, .inr (5, [.int (nI 0), .ref aO, .ref aT, .ref aM, .ref aZ, .ref aY, .ref aK, .ref aF, .ref aL, .int (nI c), .int 1, .int (nI s)])), (aO, .inl (cI, 2400, .inl (upd (va_cpy M1 O 0 0 i) i (M1 i)))), (aT, .inl (cI, 2400, .inl T)), (aM, .inl (cI, 1200, .inl M1)), (aZ, .inl (cI, 2, .inl Z)), (aY, .inl (cI, 2, .inl Y)), (aK, .inl (cI, 1200, .inl gk)), (aF, .inl (cI, 1200, .inl gf)), (aL, .inl (cI, 1200, .inl gl))] := hD
                  refine lv_iinc (k := 2) (v := nI (i + 1)) (lv' := [(2, .int (nI (i + 1))), (0, .ref mo), (1, .int (nI lm))]) hx hb dX5_patch_194 hl rfl (by rw [nI_succ]; rfl) (Nat.le_of_ble_eq_true rfl) rfl (fun ls hl => ?_)
                  refine lv_goto (tgt := 177) hx hb dX5_patch_197 (by decide) ?_
                  have hP : va_P D vwCl [(mo, .inr (5, [.int (nI 0), .ref aO, .ref aT, .ref aM, .ref aZ, .ref aY, .ref aK, .ref aF, .ref aL, .int (nI c), .int 1, .int (nI s)])), (aO, .inl (cI, 2400, .inl (va_cpy M1 O 0 0 (i + 1)))), (aT, .inl (cI, 2400, .inl T)), (aM, .inl (cI, 1200, .inl M1)), (aZ, .inl (cI, 2, .inl Z)), (aY, .inl (cI, 2, .inl Y)), (aK, .inl (cI, 1200, .inl gk)), (aF, .inl (cI, 1200, .inl gf)), (aL, .inl (cI, 1200, .inl gl))] H := by rw [cpy_s, Nat.zero_add]; exact hP
                  have hD : va_D A [(mo, .inr (5, [.int (nI 0), .ref aO, .ref aT, .ref aM, .ref aZ, .ref aY, .ref aK, .ref aF, .ref aL, .int (nI c), .int 1, .int (nI s)])), (aO, .inl (cI, 2400, .inl (va_cpy M1 O 0 0 (i + 1)))), (aT, .inl (cI, 2400, .inl T)), (aM, .inl (cI, 1200, .inl M1)), (aZ, .inl (cI, 2, .inl Z)), (aY, .inl (cI, 2, .inl Y)), (aK, .inl (cI, 1200, .inl gk)), (aF, .inl (cI, 1200, .inl gf)), (aL, .inl (cI, 1200, .inl gl))] := by rw [cpy_s, Nat.zero_add]; exact hD
                  exact ih7 (i + 1) H locs ls (by omega) (by omega) hP hD hS (lv_sub hl [1, 2, 0] rfl)
            exact loop5 _ 0 H locs ls (Nat.zero_le _) (Nat.lt_succ_self _) hP hD hS (lv_sub hl [1, 2, 0] rfl)
          ·
            have h : ¬ c ≤ k := fun z9 => h ((nI_leI (a := c) (b := k) (by omega) (by omega)).mpr z9)
            obtain ⟨q1, q2, q3, q4, q5⟩ := t1 k (by omega)
            have hj := hT.2 k (by omega)
            have hmono := sgO_mono (s := s) (lo := l0) (K := K) (a := a) (n := n) c (k + 1) (by omega)
            have hsg : sgO s l0 K a n (k + 1) = sgO s l0 K a n k + (sE s l0 (K k) (a k) (n k) - sS s (K k) (a k)) := rfl
            have hEF := seg_ok g3 g1 g2 q4 q5
            have ht2 := t2 k (by omega)
            have loop9 : ∀ (k10 : Nat) (i : Nat) (M2 : Nat → Int32) (H : Heap) (locs : List Loc) (ls : Array Slot), (sS s (K k) (a k) ≤ i) → (i ≤ sE s l0 (K k) (a k) (n k)) → (∀ x, x < sgO s l0 K a n k + (i - sS s (K k) (a k)) → M2 x = fm x) → sE s l0 (K k) (a k) (n k) - i < k10 → va_P D vwCl [(mo, .inr (5, [.int (nI 0), .ref aO, .ref aT, .ref aM, .ref aZ, .ref aY, .ref aK, .ref aF, .ref aL, .int (nI c), .int 1, .int (nI s)])), (aO, .inl (cI, 2400, .inl O)), (aT, .inl (cI, 2400, .inl T)), (aM, .inl (cI, 1200, .inl M2)), (aZ, .inl (cI, 2, .inl Z)), (aY, .inl (cI, 2, .inl Y)), (aK, .inl (cI, 1200, .inl gk)), (aF, .inl (cI, 1200, .inl gf)), (aL, .inl (cI, 1200, .inl gl))] H → va_D A [(mo, .inr (5, [.int (nI 0), .ref aO, .ref aT, .ref aM, .ref aZ, .ref aY, .ref aK, .ref aF, .ref aL, .int (nI c), .int 1, .int (nI s)])), (aO, .inl (cI, 2400, .inl O)), (aT, .inl (cI, 2400, .inl T)), (aM, .inl (cI, 1200, .inl M2)), (aZ, .inl (cI, 2, .inl Z)), (aY, .inl (cI, 2, .inl Y)), (aK, .inl (cI, 1200, .inl gk)), (aF, .inl (cI, 1200, .inl gf)), (aL, .inl (cI, 1200, .inl gl))] → va_S A Ss.heap H locs → lv_has ls 6 [(0, .ref mo), (1, .int (nI (sgO s l0 K a n k + (i - sS s (K k) (a k))))), (2, .int (nI k)), (4, .int (nI (sE s l0 (K k) (a k) (n k)))), (5, .int (nI i))] → W Pp Ll Ee { frames := 0, cells := 0, slots := 0, locals := 0 } Ss Mm Aa Bb Me Cc H locs 0 0 (MQ Bb (ds_Qi D (fun (r : Int32) (u : (Nat → Int32) × (Nat → Int32) × (Nat → Int32)) => ((1 : Int32) = 0 ∧ r = 0 ∧ u = (O, M, Z)) ∨ ((1 : Int32) = 1 ∧ r = nI lm ∧ mR lm ln (va_cpy fm fo 0 0 lm) fn u.1 u.2.2)) (fun u : (Nat → Int32) × (Nat → Int32) × (Nat → Int32) => [(mo, .inr (5, [.int (nI 0), .ref aO, .ref aT, .ref aM, .ref aZ, .ref aY, .ref aK, .ref aF, .ref aL, .int (nI c), .int (1 : Int32), .int (nI s)])), (aO, .inl (cI, 2400, .inl u.1)), (aT, .inl (cI, 2400, .inl T)), (aM, .inl (cI, 1200, .inl u.2.1)), (aZ, .inl (cI, 2, .inl u.2.2)), (aY, .inl (cI, 2, .inl Y)), (aK, .inl (cI, 1200, .inl gk)), (aF, .inl (cI, 1200, .inl gf)), (aL, .inl (cI, 1200, .inl gl))]) A) Aa Ss 0 0 A) (F0 Mm 140 ls []) := by
              intro k10
              induction k10 with
              | zero => intro i M2 H locs ls hF hE hM2 hm12; exact absurd hm12 (Nat.not_lt_zero _)
              | succ k10 ih11 =>
                intro i M2 H locs ls hF hE hM2 hm12 hP hD hS hl
                refine lv_iload hx hb dX5_patch_140 (lv_at hl 4 rfl) ?_
                refine lv_iload hx hb dX5_patch_142 (lv_at hl 3 rfl) ?_
                refine lv_icmp_ge (tgt := 169) hx hb dX5_patch_144 (by decide) (fun h => ?_) (fun h => ?_)
                ·
                  have h : (sE s l0 (K k) (a k) (n k)) ≤ i := (nI_leI (a := (sE s l0 (K k) (a k) (n k))) (b := i) (by omega) (by omega)).mp h
                  have e9 : sE s l0 (K k) (a k) (n k) = i := (by omega)
                  subst e9
                  refine lv_iinc (k := 2) (v := nI (k + 1)) (lv' := [(2, .int (nI (k + 1))), (0, .ref mo), (1, .int (nI (sgO s l0 K a n k + ((sE s l0 (K k) (a k) (n k)) - sS s (K k) (a k))))), (4, .int (nI (sE s l0 (K k) (a k) (n k)))), (5, .int (nI (sE s l0 (K k) (a k) (n k))))]) hx hb dX5_patch_169 hl rfl (by rw [nI_succ]; rfl) (Nat.le_of_ble_eq_true rfl) rfl (fun ls hl => ?_)
                  refine lv_goto (tgt := 18) hx hb dX5_patch_172 (by decide) ?_
                  exact ih3 (k + 1) M2 H locs ls (by omega) hM2 (by omega) hP hD hS (lv_sub hl [1, 2, 0] rfl)
                ·
                  have h : ¬ (sE s l0 (K k) (a k) (n k)) ≤ i := fun z9 => h ((nI_leI (a := (sE s l0 (K k) (a k) (n k))) (b := i) (by omega) (by omega)).mpr z9)
                  refine lv_aload_n hx hb dX5_patch_147 rfl (lv_at hl 0 rfl) ?_
                  refine va_get (D := D) (ci := 5) (v := .ref aM) (C := RX5) (T := TX5) (N := 12) hx hb ht inA_X5 hown hK.1 hP 0 rfl rfl 3 (by decide) (ht _ iw_124) (fun _ h9 => h9) rfl dX5_patch_148 ?_
                  refine lv_iload_n hx hb dX5_patch_151 rfl (lv_at hl 1 rfl) ?_
                  refine lv_iinc (k := 1) (v := nI ((sgO s l0 K a n k + (i - sS s (K k) (a k))) + 1)) (lv' := [(1, .int (nI ((sgO s l0 K a n k + (i - sS s (K k) (a k))) + 1))), (0, .ref mo), (2, .int (nI k)), (4, .int (nI (sE s l0 (K k) (a k) (n k)))), (5, .int (nI i))]) hx hb dX5_patch_152 hl rfl (by rw [nI_succ]; rfl) (Nat.le_of_ble_eq_true rfl) rfl (fun ls hl => ?_)
                  refine lv_aload_n hx hb dX5_patch_155 rfl (lv_at hl 1 rfl) ?_
                  refine va_get (D := D) (ci := 5) (v := .ref aT) (C := RX5) (T := TX5) (N := 12) hx hb ht inA_X5 hown hK.1 hP 0 rfl rfl 2 (by decide) (ht _ iw_123) (fun _ h9 => h9) rfl dX5_patch_156 ?_
                  refine lv_iload hx hb dX5_patch_159 (lv_at hl 4 rfl) ?_
                  refine ds_iald (k := i) hx hb hK hP 2 rfl (by omega) (by omega) dX5_patch_161 ?_
                  refine ds_iast (k := sgO s l0 K a n k + (i - sS s (K k) (a k))) hx hb hK hP hD hS 3 rfl (by omega) (by omega) dX5_patch_162 (fun H locs hP hD hS => ?_)
                  have hP : va_P D vwCl [(mo, .inr (5, [.int (nI 0), .ref aO, .ref aT, .ref aM, .ref aZ, .ref aY, .ref aK, .ref aF, .ref aL, .int (nI c), .int 1, .int (nI s)])), (aO, .inl (cI, 2400, .inl O)), (aT, .inl (cI, 2400, .inl T)), (aM, .inl (cI, 1200, .inl (upd M2 (sgO s l0 K a n k + (i - sS s (K k) (a k))) (T i)))), (aZ, .inl (cI, 2, .inl Z)), (aY, .inl (cI, 2, .inl Y)), (aK, .inl (cI, 1200, .inl gk)), (aF, .inl (cI, 1200, .inl gf)), (aL, .inl (cI, 1200, .inl gl))] H := hP
                  have hD : va_D A [(mo, .inr (5, [.int (nI 0), .ref aO, .ref aT, .ref aM, .ref aZ, .ref aY, .ref aK, .ref aF, .ref aL, .int (nI c), .int 1, .int (nI s)])), (aO, .inl (cI, 2400, .inl O)), (aT, .inl (cI, 2400, .inl T)), (aM, .inl (cI, 1200, .inl (upd M2 (sgO s l0 K a n k + (i - sS s (K k) (a k))) (T i)))), (aZ, .inl (cI, 2, .inl Z)), (aY, .inl (cI, 2, .inl Y)), (aK, .inl (cI, 1200, .inl gk)), (aF, .inl (cI, 1200, .inl gf)), (aL, .inl (cI, 1200, .inl gl))] := hD
                  refine lv_iinc (k := 4) (v := nI (i + 1)) (lv' := [(5, .int (nI (i + 1))), (1, .int (nI ((sgO s l0 K a n k + (i - sS s (K k) (a k))) + 1))), (0, .ref mo), (2, .int (nI k)), (4, .int (nI (sE s l0 (K k) (a k) (n k))))]) hx hb dX5_patch_163 hl rfl (by rw [nI_succ]; rfl) (Nat.le_of_ble_eq_true rfl) rfl (fun ls hl => ?_)
                  refine lv_goto (tgt := 140) hx hb dX5_patch_166 (by decide) ?_
                  have hl : lv_has ls 6 [(5, .int (nI (i + 1))), (1, .int (nI (sgO s l0 K a n k + (i + 1 - sS s (K k) (a k))))), (0, .ref mo), (2, .int (nI k)), (4, .int (nI (sE s l0 (K k) (a k) (n k))))] := by rw [show sgO s l0 K a n k + (i + 1 - sS s (K k) (a k)) = (sgO s l0 K a n k + (i - sS s (K k) (a k))) + 1 by omega]; exact hl
                  exact ih11 (i + 1) (upd M2 (sgO s l0 K a n k + (i - sS s (K k) (a k))) (T i)) H locs ls (by omega) (by omega) (seg_step ht2 hF (by omega) hM2) (by omega) hP hD hS (lv_sub hl [2, 1, 3, 4, 0] rfl)
            by_cases hKk : K k = 0
            ·
              have hmul : s * (a k + n k) ≤ 256 * 300 := Nat.mul_le_mul g4 (by omega)
              have hmul2 : s * a k ≤ s * (a k + n k) := Nat.mul_le_mul_left s (by omega)
              have hFe : sS s (K k) (a k) = s * a k := by rw [hKk]; rfl
              have hEe : sE s l0 (K k) (a k) (n k) = min (s * (a k + n k)) l0 := by rw [hKk]; rfl
              refine lv_aload_n hx hb dX5_patch_26 rfl (lv_at hl 0 rfl) ?_
              refine va_get (D := D) (ci := 5) (v := .ref aK) (C := RX5) (T := TX5) (N := 12) hx hb ht inA_X5 hown hK.1 hP 0 rfl rfl 6 (by decide) (ht _ iw_127) (fun _ h9 => h9) rfl dX5_patch_27 ?_
              refine lv_iload_n hx hb dX5_patch_30 rfl (lv_at hl 2 rfl) ?_
              refine ds_iald (k := k) hx hb hK hP 6 rfl (by omega) (by omega) dX5_patch_31 ?_
              refine ds_top (z := nI (K k)) (hj.1.trans q1) ?_
              refine lv_if_ne (tgt := 49) hx hb dX5_patch_32 (by decide) (fun h => ?_) (fun h => ?_)
              ·
                rw [← nI_0] at h
                have h : ¬ (K k) = 0 := fun z9 => h ((nI_eq (a := (K k)) (b := 0) (by omega) (by omega)).mpr z9)
                exact absurd hKk h
              ·
                rw [← nI_0] at h
                have h : (K k) = 0 := (nI_eq (a := (K k)) (b := 0) (by omega) (by omega)).mp h
                refine lv_aload_n hx hb dX5_patch_35 rfl (lv_at hl 0 rfl) ?_
                refine va_get (D := D) (ci := 5) (v := .int (nI s)) (C := RX5) (T := TX5) (N := 12) hx hb ht inA_X5 hown hK.1 hP 0 rfl rfl 11 (by decide) (ht _ iw_181) (fun _ h9 => h9) rfl dX5_patch_36 ?_
                refine lv_aload_n hx hb dX5_patch_39 rfl (lv_at hl 0 rfl) ?_
                refine va_get (D := D) (ci := 5) (v := .ref aF) (C := RX5) (T := TX5) (N := 12) hx hb ht inA_X5 hown hK.1 hP 0 rfl rfl 7 (by decide) (ht _ iw_128) (fun _ h9 => h9) rfl dX5_patch_40 ?_
                refine lv_iload_n hx hb dX5_patch_43 rfl (lv_at hl 2 rfl) ?_
                refine ds_iald (k := k) hx hb hK hP 7 rfl (by omega) (by omega) dX5_patch_44 ?_
                refine ds_top (z := nI (a k)) (hj.2.1.trans q2) ?_
                refine lv_imul hx hb dX5_patch_45 ?_
                refine ds_top (z := nI (s * (a k))) (pk_mul _ _) ?_
                refine lv_goto (tgt := 59) hx hb dX5_patch_46 (by decide) ?_
                refine lv_istore_n (lv' := [(3, .int (nI (s * (a k)))), (0, .ref mo), (1, .int (nI (sgO s l0 K a n k))), (2, .int (nI k))]) hx hb dX5_patch_59 rfl hl (Nat.le_of_ble_eq_true rfl) rfl (fun ls hl => ?_)
                refine lv_aload_n hx hb dX5_patch_60 rfl (lv_at hl 1 rfl) ?_
                refine va_get (D := D) (ci := 5) (v := .ref aK) (C := RX5) (T := TX5) (N := 12) hx hb ht inA_X5 hown hK.1 hP 0 rfl rfl 6 (by decide) (ht _ iw_127) (fun _ h9 => h9) rfl dX5_patch_61 ?_
                refine lv_iload_n hx hb dX5_patch_64 rfl (lv_at hl 3 rfl) ?_
                refine ds_iald (k := k) hx hb hK hP 6 rfl (by omega) (by omega) dX5_patch_65 ?_
                refine ds_top (z := nI (K k)) (hj.1.trans q1) ?_
                refine lv_if_ne (tgt := 90) hx hb dX5_patch_66 (by decide) (fun h => ?_) (fun h => ?_)
                ·
                  rw [← nI_0] at h
                  have h : ¬ (K k) = 0 := fun z9 => h ((nI_eq (a := (K k)) (b := 0) (by omega) (by omega)).mpr z9)
                  exact absurd hKk h
                ·
                  rw [← nI_0] at h
                  have h : (K k) = 0 := (nI_eq (a := (K k)) (b := 0) (by omega) (by omega)).mp h
                  refine lv_aload_n hx hb dX5_patch_69 rfl (lv_at hl 1 rfl) ?_
                  refine va_get (D := D) (ci := 5) (v := .int (nI s)) (C := RX5) (T := TX5) (N := 12) hx hb ht inA_X5 hown hK.1 hP 0 rfl rfl 11 (by decide) (ht _ iw_181) (fun _ h9 => h9) rfl dX5_patch_70 ?_
                  refine lv_aload_n hx hb dX5_patch_73 rfl (lv_at hl 1 rfl) ?_
                  refine va_get (D := D) (ci := 5) (v := .ref aF) (C := RX5) (T := TX5) (N := 12) hx hb ht inA_X5 hown hK.1 hP 0 rfl rfl 7 (by decide) (ht _ iw_128) (fun _ h9 => h9) rfl dX5_patch_74 ?_
                  refine lv_iload_n hx hb dX5_patch_77 rfl (lv_at hl 3 rfl) ?_
                  refine ds_iald (k := k) hx hb hK hP 7 rfl (by omega) (by omega) dX5_patch_78 ?_
                  refine ds_top (z := nI (a k)) (hj.2.1.trans q2) ?_
                  refine lv_aload_n hx hb dX5_patch_79 rfl (lv_at hl 1 rfl) ?_
                  refine va_get (D := D) (ci := 5) (v := .ref aL) (C := RX5) (T := TX5) (N := 12) hx hb ht inA_X5 hown hK.1 hP 0 rfl rfl 8 (by decide) (ht _ iw_129) (fun _ h9 => h9) rfl dX5_patch_80 ?_
                  refine lv_iload_n hx hb dX5_patch_83 rfl (lv_at hl 3 rfl) ?_
                  refine ds_iald (k := k) hx hb hK hP 8 rfl (by omega) (by omega) dX5_patch_84 ?_
                  refine ds_top (z := nI (n k)) (hj.2.2.trans q3) ?_
                  refine lv_iadd hx hb dX5_patch_85 ?_
                  refine ds_top (z := nI ((a k) + (n k))) (nI_add _ _) ?_
                  refine lv_imul hx hb dX5_patch_86 ?_
                  refine ds_top (z := nI (s * ((a k) + (n k)))) (pk_mul _ _) ?_
                  refine lv_goto (tgt := 107) hx hb dX5_patch_87 (by decide) ?_
                  refine lv_istore (lv' := [(4, .int (nI (s * ((a k) + (n k))))), (3, .int (nI (s * (a k)))), (0, .ref mo), (1, .int (nI (sgO s l0 K a n k))), (2, .int (nI k))]) hx hb dX5_patch_107 hl (Nat.le_of_ble_eq_true rfl) rfl (fun ls hl => ?_)
                  refine lv_aload_n hx hb dX5_patch_109 rfl (lv_at hl 2 rfl) ?_
                  refine va_get (D := D) (ci := 5) (v := .ref aK) (C := RX5) (T := TX5) (N := 12) hx hb ht inA_X5 hown hK.1 hP 0 rfl rfl 6 (by decide) (ht _ iw_127) (fun _ h9 => h9) rfl dX5_patch_110 ?_
                  refine lv_iload_n hx hb dX5_patch_113 rfl (lv_at hl 4 rfl) ?_
                  refine ds_iald (k := k) hx hb hK hP 6 rfl (by omega) (by omega) dX5_patch_114 ?_
                  refine ds_top (z := nI (K k)) (hj.1.trans q1) ?_
                  refine lv_if_ne (tgt := 137) hx hb dX5_patch_115 (by decide) (fun h => ?_) (fun h => ?_)
                  ·
                    rw [← nI_0] at h
                    have h : ¬ (K k) = 0 := fun z9 => h ((nI_eq (a := (K k)) (b := 0) (by omega) (by omega)).mpr z9)
                    exact absurd hKk h
                  ·
                    rw [← nI_0] at h
                    have h : (K k) = 0 := (nI_eq (a := (K k)) (b := 0) (by omega) (by omega)).mp h
                    refine lv_iload hx hb dX5_patch_118 (lv_at hl 0 rfl) ?_
                    refine lv_aload_n hx hb dX5_patch_120 rfl (lv_at hl 2 rfl) ?_
                    refine va_get (D := D) (ci := 5) (v := .ref aY) (C := RX5) (T := TX5) (N := 12) hx hb ht inA_X5 hown hK.1 hP 0 rfl rfl 5 (by decide) (ht _ iw_126) (fun _ h9 => h9) rfl dX5_patch_121 ?_
                    refine lv_iconst (v := nI 0) hx hb dX5_patch_124 (by decide +kernel) ?_
                    refine ds_iald (k := 0) hx hb hK hP 5 rfl (by omega) (by omega) dX5_patch_125 ?_
                    refine ds_top (z := nI l0) hY ?_
                    refine lv_icmp_le (tgt := 137) hx hb dX5_patch_126 (by decide) (fun h => ?_) (fun h => ?_)
                    ·
                      have h : (s * ((a k) + (n k))) ≤ l0 := (nI_leI (a := (s * ((a k) + (n k)))) (b := l0) (by omega) (by omega)).mp h
                      refine lv_iload_n hx hb dX5_patch_137 rfl (lv_at hl 1 rfl) ?_
                      refine lv_istore (lv' := [(5, .int (nI (s * (a k)))), (4, .int (nI (s * ((a k) + (n k))))), (3, .int (nI (s * (a k)))), (0, .ref mo), (1, .int (nI (sgO s l0 K a n k))), (2, .int (nI k))]) hx hb dX5_patch_138 hl (Nat.le_of_ble_eq_true rfl) rfl (fun ls hl => ?_)
                      have hl : lv_has ls 6 [(5, .int (nI (sS s (K k) (a k)))), (4, .int (nI (sE s l0 (K k) (a k) (n k)))), (3, .int (nI (s * (a k)))), (0, .ref mo), (1, .int (nI (sgO s l0 K a n k + (sS s (K k) (a k) - sS s (K k) (a k))))), (2, .int (nI k))] := by rw [Nat.sub_self, Nat.add_zero, hEe.trans (Nat.min_eq_left h), hFe]; exact hl
                      exact loop9 _ (sS s (K k) (a k)) M1 H locs ls (Nat.le_refl _) hEF.1 (fun x hx => hM x (by omega)) (Nat.lt_succ_self _) hP hD hS (lv_sub hl [3, 4, 5, 1, 0] rfl)
                    ·
                      have h : ¬ (s * ((a k) + (n k))) ≤ l0 := fun z9 => h ((nI_leI (a := (s * ((a k) + (n k)))) (b := l0) (by omega) (by omega)).mpr z9)
                      refine lv_aload_n hx hb dX5_patch_129 rfl (lv_at hl 2 rfl) ?_
                      refine va_get (D := D) (ci := 5) (v := .ref aY) (C := RX5) (T := TX5) (N := 12) hx hb ht inA_X5 hown hK.1 hP 0 rfl rfl 5 (by decide) (ht _ iw_126) (fun _ h9 => h9) rfl dX5_patch_130 ?_
                      refine lv_iconst (v := nI 0) hx hb dX5_patch_133 (by decide +kernel) ?_
                      refine ds_iald (k := 0) hx hb hK hP 5 rfl (by omega) (by omega) dX5_patch_134 ?_
                      refine ds_top (z := nI l0) hY ?_
                      refine lv_istore (lv' := [(4, .int (nI l0)), (3, .int (nI (s * (a k)))), (0, .ref mo), (1, .int (nI (sgO s l0 K a n k))), (2, .int (nI k))]) hx hb dX5_patch_135 hl (Nat.le_of_ble_eq_true rfl) rfl (fun ls hl => ?_)
                      refine lv_iload_n hx hb dX5_patch_137 rfl (lv_at hl 1 rfl) ?_
                      refine lv_istore (lv' := [(5, .int (nI (s * (a k)))), (4, .int (nI l0)), (3, .int (nI (s * (a k)))), (0, .ref mo), (1, .int (nI (sgO s l0 K a n k))), (2, .int (nI k))]) hx hb dX5_patch_138 hl (Nat.le_of_ble_eq_true rfl) rfl (fun ls hl => ?_)
                      have hl : lv_has ls 6 [(5, .int (nI (sS s (K k) (a k)))), (4, .int (nI (sE s l0 (K k) (a k) (n k)))), (3, .int (nI (s * (a k)))), (0, .ref mo), (1, .int (nI (sgO s l0 K a n k + (sS s (K k) (a k) - sS s (K k) (a k))))), (2, .int (nI k))] := by rw [Nat.sub_self, Nat.add_zero, hEe.trans (Nat.min_eq_right (Nat.le_of_lt (Nat.lt_of_not_le h))), hFe]; exact hl
                      exact loop9 _ (sS s (K k) (a k)) M1 H locs ls (Nat.le_refl _) hEF.1 (fun x hx => hM x (by omega)) (Nat.lt_succ_self _) hP hD hS (lv_sub hl [3, 4, 5, 1, 0] rfl)
            ·
              have hKk1 : K k = 1 := by omega
              have hFe : sS s (K k) (a k) = 1200 + a k := by rw [hKk1]; rfl
              have hEe : sE s l0 (K k) (a k) (n k) = (1200 + a k) + n k := by rw [hKk1]; rfl
              refine lv_aload_n hx hb dX5_patch_26 rfl (lv_at hl 0 rfl) ?_
              refine va_get (D := D) (ci := 5) (v := .ref aK) (C := RX5) (T := TX5) (N := 12) hx hb ht inA_X5 hown hK.1 hP 0 rfl rfl 6 (by decide) (ht _ iw_127) (fun _ h9 => h9) rfl dX5_patch_27 ?_
              refine lv_iload_n hx hb dX5_patch_30 rfl (lv_at hl 2 rfl) ?_
              refine ds_iald (k := k) hx hb hK hP 6 rfl (by omega) (by omega) dX5_patch_31 ?_
              refine ds_top (z := nI (K k)) (hj.1.trans q1) ?_
              refine lv_if_ne (tgt := 49) hx hb dX5_patch_32 (by decide) (fun h => ?_) (fun h => ?_)
              ·
                rw [← nI_0] at h
                have h : ¬ (K k) = 0 := fun z9 => h ((nI_eq (a := (K k)) (b := 0) (by omega) (by omega)).mpr z9)
                refine lv_sipush (v := nI 1200) hx hb dX5_patch_49 (by decide +kernel) ?_
                refine lv_aload_n hx hb dX5_patch_52 rfl (lv_at hl 0 rfl) ?_
                refine va_get (D := D) (ci := 5) (v := .ref aF) (C := RX5) (T := TX5) (N := 12) hx hb ht inA_X5 hown hK.1 hP 0 rfl rfl 7 (by decide) (ht _ iw_128) (fun _ h9 => h9) rfl dX5_patch_53 ?_
                refine lv_iload_n hx hb dX5_patch_56 rfl (lv_at hl 2 rfl) ?_
                refine ds_iald (k := k) hx hb hK hP 7 rfl (by omega) (by omega) dX5_patch_57 ?_
                refine ds_top (z := nI (a k)) (hj.2.1.trans q2) ?_
                refine lv_iadd hx hb dX5_patch_58 ?_
                refine ds_top (z := nI (1200 + (a k))) (nI_add _ _) ?_
                refine lv_istore_n (lv' := [(3, .int (nI (1200 + (a k)))), (0, .ref mo), (1, .int (nI (sgO s l0 K a n k))), (2, .int (nI k))]) hx hb dX5_patch_59 rfl hl (Nat.le_of_ble_eq_true rfl) rfl (fun ls hl => ?_)
                refine lv_aload_n hx hb dX5_patch_60 rfl (lv_at hl 1 rfl) ?_
                refine va_get (D := D) (ci := 5) (v := .ref aK) (C := RX5) (T := TX5) (N := 12) hx hb ht inA_X5 hown hK.1 hP 0 rfl rfl 6 (by decide) (ht _ iw_127) (fun _ h9 => h9) rfl dX5_patch_61 ?_
                refine lv_iload_n hx hb dX5_patch_64 rfl (lv_at hl 3 rfl) ?_
                refine ds_iald (k := k) hx hb hK hP 6 rfl (by omega) (by omega) dX5_patch_65 ?_
                refine ds_top (z := nI (K k)) (hj.1.trans q1) ?_
                refine lv_if_ne (tgt := 90) hx hb dX5_patch_66 (by decide) (fun h => ?_) (fun h => ?_)
                ·
                  rw [← nI_0] at h
                  have h : ¬ (K k) = 0 := fun z9 => h ((nI_eq (a := (K k)) (b := 0) (by omega) (by omega)).mpr z9)
                  refine lv_sipush (v := nI 1200) hx hb dX5_patch_90 (by decide +kernel) ?_
                  refine lv_aload_n hx hb dX5_patch_93 rfl (lv_at hl 1 rfl) ?_
                  refine va_get (D := D) (ci := 5) (v := .ref aF) (C := RX5) (T := TX5) (N := 12) hx hb ht inA_X5 hown hK.1 hP 0 rfl rfl 7 (by decide) (ht _ iw_128) (fun _ h9 => h9) rfl dX5_patch_94 ?_
                  refine lv_iload_n hx hb dX5_patch_97 rfl (lv_at hl 3 rfl) ?_
                  refine ds_iald (k := k) hx hb hK hP 7 rfl (by omega) (by omega) dX5_patch_98 ?_
                  refine ds_top (z := nI (a k)) (hj.2.1.trans q2) ?_
                  refine lv_iadd hx hb dX5_patch_99 ?_
                  refine ds_top (z := nI (1200 + (a k))) (nI_add _ _) ?_
                  refine lv_aload_n hx hb dX5_patch_100 rfl (lv_at hl 1 rfl) ?_
                  refine va_get (D := D) (ci := 5) (v := .ref aL) (C := RX5) (T := TX5) (N := 12) hx hb ht inA_X5 hown hK.1 hP 0 rfl rfl 8 (by decide) (ht _ iw_129) (fun _ h9 => h9) rfl dX5_patch_101 ?_
                  refine lv_iload_n hx hb dX5_patch_104 rfl (lv_at hl 3 rfl) ?_
                  refine ds_iald (k := k) hx hb hK hP 8 rfl (by omega) (by omega) dX5_patch_105 ?_
                  refine ds_top (z := nI (n k)) (hj.2.2.trans q3) ?_
                  refine lv_iadd hx hb dX5_patch_106 ?_
                  refine ds_top (z := nI ((1200 + (a k)) + (n k))) (nI_add _ _) ?_
                  refine lv_istore (lv' := [(4, .int (nI ((1200 + (a k)) + (n k)))), (3, .int (nI (1200 + (a k)))), (0, .ref mo), (1, .int (nI (sgO s l0 K a n k))), (2, .int (nI k))]) hx hb dX5_patch_107 hl (Nat.le_of_ble_eq_true rfl) rfl (fun ls hl => ?_)
                  refine lv_aload_n hx hb dX5_patch_109 rfl (lv_at hl 2 rfl) ?_
                  refine va_get (D := D) (ci := 5) (v := .ref aK) (C := RX5) (T := TX5) (N := 12) hx hb ht inA_X5 hown hK.1 hP 0 rfl rfl 6 (by decide) (ht _ iw_127) (fun _ h9 => h9) rfl dX5_patch_110 ?_
                  refine lv_iload_n hx hb dX5_patch_113 rfl (lv_at hl 4 rfl) ?_
                  refine ds_iald (k := k) hx hb hK hP 6 rfl (by omega) (by omega) dX5_patch_114 ?_
                  refine ds_top (z := nI (K k)) (hj.1.trans q1) ?_
                  refine lv_if_ne (tgt := 137) hx hb dX5_patch_115 (by decide) (fun h => ?_) (fun h => ?_)
                  ·
                    rw [← nI_0] at h
                    have h : ¬ (K k) = 0 := fun z9 => h ((nI_eq (a := (K k)) (b := 0) (by omega) (by omega)).mpr z9)
                    refine lv_iload_n hx hb dX5_patch_137 rfl (lv_at hl 1 rfl) ?_
                    refine lv_istore (lv' := [(5, .int (nI (1200 + (a k)))), (4, .int (nI ((1200 + (a k)) + (n k)))), (3, .int (nI (1200 + (a k)))), (0, .ref mo), (1, .int (nI (sgO s l0 K a n k))), (2, .int (nI k))]) hx hb dX5_patch_138 hl (Nat.le_of_ble_eq_true rfl) rfl (fun ls hl => ?_)
                    have hl : lv_has ls 6 [(5, .int (nI (sS s (K k) (a k)))), (4, .int (nI (sE s l0 (K k) (a k) (n k)))), (3, .int (nI (1200 + (a k)))), (0, .ref mo), (1, .int (nI (sgO s l0 K a n k + (sS s (K k) (a k) - sS s (K k) (a k))))), (2, .int (nI k))] := by rw [Nat.sub_self, Nat.add_zero, hEe, hFe]; exact hl
                    exact loop9 _ (sS s (K k) (a k)) M1 H locs ls (Nat.le_refl _) hEF.1 (fun x hx => hM x (by omega)) (Nat.lt_succ_self _) hP hD hS (lv_sub hl [3, 4, 5, 1, 0] rfl)
                  ·
                    rw [← nI_0] at h
                    have h : (K k) = 0 := (nI_eq (a := (K k)) (b := 0) (by omega) (by omega)).mp h
                    exact absurd h hKk
                ·
                  rw [← nI_0] at h
                  have h : (K k) = 0 := (nI_eq (a := (K k)) (b := 0) (by omega) (by omega)).mp h
                  exact absurd h hKk
              ·
                rw [← nI_0] at h
                have h : (K k) = 0 := (nI_eq (a := (K k)) (b := 0) (by omega) (by omega)).mp h
                exact absurd h hKk
      exact loop1 _ 0 M H locs ls (Nat.zero_le _) (fun x hx => absurd hx (Nat.not_lt_zero _)) (Nat.lt_succ_self _) hP hD hS (lv_sub hl [2, 1, 0] rfl)
    ·
      exact absurd h (by decide)
