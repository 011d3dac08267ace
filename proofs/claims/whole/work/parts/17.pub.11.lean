set_option maxHeartbeats 4000000 in
set_option maxRecDepth 100000 in
theorem c_X4_same (Ll : Launch) (D : va_G) (cI cL : ClassId) (d : Nat) (ro : Nat) (rn : Nat) (rm : Nat) (bk : Nat) (uw : Nat) (lw : Nat) (tk : Nat) (hd : Int32) (oo : Nat) (lo : Nat) (fo : Nat → Int32) (qn : Nat) (ln : Nat) (fn : Nat → Int32) (h1 : lo ≤ 1200) (h2 : ln ≤ 1200) (sz : Nat) : Met Ll yX4_same wsX4_same { frames := 0, cells := 0, slots := 0, locals := 0 } (ds_P D cI cL [.ref d] [(d, .inr (4, [.ref ro, .ref rn, .ref rm, .ref bk, .ref uw, .ref lw, .ref tk, .int hd])), (ro, .inr (1, [.ref oo, .int (nI lo)])), (oo, .inl (cI, 1200, .inl fo)), (rn, .inr (1, [.ref qn, .int (nI ln)])), (qn, .inl (cI, 1200, .inl fn))] sz) (ds_Qi D (fun (r : Int32) (u : Unit) => (r = 1 ∧ (lo = ln ∧ ∀ j, j < lo → fo j = fn j)) ∨ (r = 0 ∧ ¬ (lo = ln ∧ ∀ j, j < lo → fo j = fn j))) (fun u : Unit => [(d, .inr (4, [.ref ro, .ref rn, .ref rm, .ref bk, .ref uw, .ref lw, .ref tk, .int hd])), (ro, .inr (1, [.ref oo, .int (nI lo)])), (oo, .inl (cI, 1200, .inl fo)), (rn, .inr (1, [.ref qn, .int (nI ln)])), (qn, .inl (cI, 1200, .inl fn))]) (va_A [(d, .inr (4, [.ref ro, .ref rn, .ref rm, .ref bk, .ref uw, .ref lw, .ref tk, .int hd])), (ro, .inr (1, [.ref oo, .int (nI lo)])), (oo, .inl (cI, 1200, .inl fo)), (rn, .inr (1, [.ref qn, .int (nI ln)])), (qn, .inl (cI, 1200, .inl fn))] sz)) 0 0 (va_A [(d, .inr (4, [.ref ro, .ref rn, .ref rm, .ref bk, .ref uw, .ref lw, .ref tk, .int hd])), (ro, .inr (1, [.ref oo, .int (nI lo)])), (oo, .inl (cI, 1200, .inl fo)), (rn, .inr (1, [.ref qn, .int (nI ln)])), (qn, .inl (cI, 1200, .inl fn))] sz) := by
  refine ds_enter (Qf := (fun A9 => ds_Qi D (fun (r : Int32) (u : Unit) => (r = 1 ∧ (lo = ln ∧ ∀ j, j < lo → fo j = fn j)) ∨ (r = 0 ∧ ¬ (lo = ln ∧ ∀ j, j < lo → fo j = fn j))) (fun u : Unit => [(d, .inr (4, [.ref ro, .ref rn, .ref rm, .ref bk, .ref uw, .ref lw, .ref tk, .int hd])), (ro, .inr (1, [.ref oo, .int (nI lo)])), (oo, .inl (cI, 1200, .inl fo)), (rn, .inr (1, [.ref qn, .int (nI ln)])), (qn, .inl (cI, 1200, .inl fn))]) A9)) (cc := cX4_same) (maxL := 2) (ret := (some .boolean)) (by decide) rfl (Nat.le_of_ble_eq_true rfl) ?_
  intro Pp Ee Ss Mm Aa Bb Me Cc hx hb hml hr ht hown hlk hnm A H locs hA hP hD hS hK ls hl
  have hl : lv_has ls 2 [(0, .ref d)] := hl
  change Ss.vm.findClass RX4 = some Mm.cls at hown
  refine lv_aload_n hx hb dX4_same_0 rfl (lv_at hl 0 rfl) ?_
  refine va_get (D := D) (ci := 4) (v := .ref ro) (C := RX4) (T := TX4) (N := 8) hx hb ht inA_X4 hown hK.1 hP 0 rfl rfl 0 (by decide) (ht _ iw_8) (fun _ h9 => h9) rfl dX4_same_1 ?_
  refine va_getN (D := D) (ci := 1) (v := .int (nI lo)) (C := RX1) (T := TX1) (N := 2) hx hb ht inA_X1 hown hK.1 hP 1 rfl rfl 1 (by decide) (nfu_1 hK) (fun _ h9 => h9) rfl dX4_same_4 ?_
  refine lv_aload_n hx hb dX4_same_7 rfl (lv_at hl 0 rfl) ?_
  refine va_get (D := D) (ci := 4) (v := .ref rn) (C := RX4) (T := TX4) (N := 8) hx hb ht inA_X4 hown hK.1 hP 0 rfl rfl 1 (by decide) (ht _ iw_9) (fun _ h9 => h9) rfl dX4_same_8 ?_
  refine va_getN (D := D) (ci := 1) (v := .int (nI ln)) (C := RX1) (T := TX1) (N := 2) hx hb ht inA_X1 hown hK.1 hP 3 rfl rfl 1 (by decide) (nfu_1 hK) (fun _ h9 => h9) rfl dX4_same_11 ?_
  refine lv_icmp_eq (tgt := 19) hx hb dX4_same_14 (by decide) (fun he => ?_) (fun he => ?_)
  ·
    have he : lo = ln := (nI_eq (a := lo) (b := ln) (by omega) (by omega)).mp he
    refine lv_iconst (v := nI 0) hx hb dX4_same_19 (by decide +kernel) ?_
    refine lv_istore_n (lv' := [(1, .int (nI 0)), (0, .ref d)]) hx hb dX4_same_20 rfl hl (Nat.le_of_ble_eq_true rfl) rfl (fun ls hl => ?_)
    have loop1 : ∀ (k2 : Nat) (i : Nat) (H : Heap) (locs : List Loc) (ls : Array Slot), (i ≤ lo) → (∀ j, j < i → fo j = fn j) → lo - i < k2 → va_P D vwCl [(d, .inr (4, [.ref ro, .ref rn, .ref rm, .ref bk, .ref uw, .ref lw, .ref tk, .int hd])), (ro, .inr (1, [.ref oo, .int (nI lo)])), (oo, .inl (cI, 1200, .inl fo)), (rn, .inr (1, [.ref qn, .int (nI ln)])), (qn, .inl (cI, 1200, .inl fn))] H → va_D A [(d, .inr (4, [.ref ro, .ref rn, .ref rm, .ref bk, .ref uw, .ref lw, .ref tk, .int hd])), (ro, .inr (1, [.ref oo, .int (nI lo)])), (oo, .inl (cI, 1200, .inl fo)), (rn, .inr (1, [.ref qn, .int (nI ln)])), (qn, .inl (cI, 1200, .inl fn))] → va_S A Ss.heap H locs → lv_has ls 2 [(0, .ref d), (1, .int (nI i))] → W Pp Ll Ee { frames := 0, cells := 0, slots := 0, locals := 0 } Ss Mm Aa Bb Me Cc H locs 0 0 (MQ Bb (ds_Qi D (fun (r : Int32) (u : Unit) => (r = 1 ∧ (lo = ln ∧ ∀ j, j < lo → fo j = fn j)) ∨ (r = 0 ∧ ¬ (lo = ln ∧ ∀ j, j < lo → fo j = fn j))) (fun u : Unit => [(d, .inr (4, [.ref ro, .ref rn, .ref rm, .ref bk, .ref uw, .ref lw, .ref tk, .int hd])), (ro, .inr (1, [.ref oo, .int (nI lo)])), (oo, .inl (cI, 1200, .inl fo)), (rn, .inr (1, [.ref qn, .int (nI ln)])), (qn, .inl (cI, 1200, .inl fn))]) A) Aa Ss 0 0 A) (F0 Mm 21 ls []) := by
      intro k2
      induction k2 with
      | zero => intro i H locs ls hi hj2 hm4; exact absurd hm4 (Nat.not_lt_zero _)
      | succ k2 ih3 =>
        intro i H locs ls hi hj2 hm4 hP hD hS hl
        refine lv_iload_n hx hb dX4_same_21 rfl (lv_at hl 1 rfl) ?_
        refine lv_aload_n hx hb dX4_same_22 rfl (lv_at hl 0 rfl) ?_
        refine va_get (D := D) (ci := 4) (v := .ref ro) (C := RX4) (T := TX4) (N := 8) hx hb ht inA_X4 hown hK.1 hP 0 rfl rfl 0 (by decide) (ht _ iw_8) (fun _ h9 => h9) rfl dX4_same_23 ?_
        refine va_getN (D := D) (ci := 1) (v := .int (nI lo)) (C := RX1) (T := TX1) (N := 2) hx hb ht inA_X1 hown hK.1 hP 1 rfl rfl 1 (by decide) (nfu_1 hK) (fun _ h9 => h9) rfl dX4_same_26 ?_
        refine lv_icmp_ge (tgt := 61) hx hb dX4_same_29 (by decide) (fun h => ?_) (fun h => ?_)
        ·
          have h : lo ≤ i := (nI_leI (a := lo) (b := i) (by omega) (by omega)).mp h
          refine lv_iconst (v := nI 1) hx hb dX4_same_61 (by decide +kernel) ?_
          exact ds_iret hx hb hr hlk (by decide +kernel) () (Or.inl ⟨rfl, he, fun j hj => hj2 j (by omega)⟩) hP hD hS (Nat.le_of_ble_eq_true rfl) (Nat.le_of_ble_eq_true rfl) dX4_same_62
        ·
          have h : ¬ lo ≤ i := fun z9 => h ((nI_leI (a := lo) (b := i) (by omega) (by omega)).mpr z9)
          refine lv_aload_n hx hb dX4_same_32 rfl (lv_at hl 0 rfl) ?_
          refine va_get (D := D) (ci := 4) (v := .ref ro) (C := RX4) (T := TX4) (N := 8) hx hb ht inA_X4 hown hK.1 hP 0 rfl rfl 0 (by decide) (ht _ iw_8) (fun _ h9 => h9) rfl dX4_same_33 ?_
          refine va_getN (D := D) (ci := 1) (v := .ref oo) (C := RX1) (T := TX1) (N := 2) hx hb ht inA_X1 hown hK.1 hP 1 rfl rfl 0 (by decide) (nfu_0 hK) (fun _ h9 => h9) rfl dX4_same_36 ?_
          refine lv_iload_n hx hb dX4_same_39 rfl (lv_at hl 1 rfl) ?_
          refine ds_iald (k := i) hx hb hK hP 2 rfl (by omega) (by omega) dX4_same_40 ?_
          refine lv_aload_n hx hb dX4_same_41 rfl (lv_at hl 0 rfl) ?_
          refine va_get (D := D) (ci := 4) (v := .ref rn) (C := RX4) (T := TX4) (N := 8) hx hb ht inA_X4 hown hK.1 hP 0 rfl rfl 1 (by decide) (ht _ iw_9) (fun _ h9 => h9) rfl dX4_same_42 ?_
          refine va_getN (D := D) (ci := 1) (v := .ref qn) (C := RX1) (T := TX1) (N := 2) hx hb ht inA_X1 hown hK.1 hP 3 rfl rfl 0 (by decide) (nfu_0 hK) (fun _ h9 => h9) rfl dX4_same_45 ?_
          refine lv_iload_n hx hb dX4_same_48 rfl (lv_at hl 1 rfl) ?_
          refine ds_iald (k := i) hx hb hK hP 4 rfl (by omega) (by omega) dX4_same_49 ?_
          refine lv_icmp_eq (tgt := 55) hx hb dX4_same_50 (by decide) (fun h0 => ?_) (fun h0 => ?_)
          ·
            refine lv_iinc (k := 1) (v := nI (i + 1)) (lv' := [(1, .int (nI (i + 1))), (0, .ref d)]) hx hb dX4_same_55 hl rfl (by rw [nI_succ]; rfl) (Nat.le_of_ble_eq_true rfl) rfl (fun ls hl => ?_)
            refine lv_goto (tgt := 21) hx hb dX4_same_58 (by decide) ?_
            exact ih3 (i + 1) H locs ls (by omega) (fun j hj => if e8 : j < i then hj2 j e8 else (show i = j by omega) ▸ h0) (by omega) hP hD hS (lv_sub hl [1, 0] rfl)
          ·
            refine lv_iconst (v := nI 0) hx hb dX4_same_53 (by decide +kernel) ?_
            exact ds_iret hx hb hr hlk (by decide +kernel) () (Or.inr ⟨rfl, fun z => h0 (z.2 i (by omega))⟩) hP hD hS (Nat.le_of_ble_eq_true rfl) (Nat.le_of_ble_eq_true rfl) dX4_same_54
    exact loop1 _ 0 H locs ls (Nat.zero_le _) (fun j hj => absurd hj (Nat.not_lt_zero _)) (Nat.lt_succ_self _) hP hD hS (lv_sub hl [1, 0] rfl)
  ·
    have he : ¬ lo = ln := fun z9 => he ((nI_eq (a := lo) (b := ln) (by omega) (by omega)).mpr z9)
    refine lv_iconst (v := nI 0) hx hb dX4_same_17 (by decide +kernel) ?_
    exact ds_iret hx hb hr hlk (by decide +kernel) () (Or.inr ⟨rfl, fun z => he z.1⟩) hP hD hS (Nat.le_of_ble_eq_true rfl) (Nat.le_of_ble_eq_true rfl) dX4_same_18
