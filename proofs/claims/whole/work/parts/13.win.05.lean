set_option maxHeartbeats 4000000 in
set_option maxRecDepth 100000 in
theorem c_X3_shows (Ll : Launch) (D : va_G) (cI cL : ClassId) (w : Nat) (r : Nat) (z : Nat) (q : Nat) (ins : Int32) (a : Int32) (b : Int32) (wk : Int32) (st : Int64) (ks : Int32) (o : Nat) (n : Nat) (f : Nat → Int32) (wv : Int32) (sv : Int64) (mk : Int64) (hz : ins = 0 ∨ (ins = 1 ∧ q + z ≤ 1200)) (hk : dw_S f z q ks st) (sz : Nat) : Met Ll yX3_shows wsX3_shows { frames := 2, cells := 0, slots := 0, locals := 45 } (ds_P D cI cL [.ref w, .int wv, .long sv, .long mk] [(w, .inr (3, [.ref r, .int (nI z), .int (nI q), .int ins, .int a, .int b, .int wk, .long st, .int ks])), (r, .inr (1, [.ref o, .int (nI n)])), (o, .inl (cI, 1200, .inl f))] sz) (ds_Qi D (fun (r : Int32) (u : Int64 × Int32) => ((r = 1 ∧ ins = 1 ∧ wk = wv ∧ (su_S f q z ^^^ sv) &&& mk = 0) ∨ (r = 0 ∧ ¬ (ins = 1 ∧ wk = wv ∧ (su_S f q z ^^^ sv) &&& mk = 0))) ∧ dw_S f z q u.2 u.1) (fun u : Int64 × Int32 => [(w, .inr (3, [.ref r, .int (nI z), .int (nI q), .int ins, .int a, .int b, .int wk, .long u.1, .int u.2])), (r, .inr (1, [.ref o, .int (nI n)])), (o, .inl (cI, 1200, .inl f))]) (va_A [(w, .inr (3, [.ref r, .int (nI z), .int (nI q), .int ins, .int a, .int b, .int wk, .long st, .int ks])), (r, .inr (1, [.ref o, .int (nI n)])), (o, .inl (cI, 1200, .inl f))] sz)) 0 0 (va_A [(w, .inr (3, [.ref r, .int (nI z), .int (nI q), .int ins, .int a, .int b, .int wk, .long st, .int ks])), (r, .inr (1, [.ref o, .int (nI n)])), (o, .inl (cI, 1200, .inl f))] sz) := by
  refine ds_enter (Qf := (fun A9 => ds_Qi D (fun (r : Int32) (u : Int64 × Int32) => ((r = 1 ∧ ins = 1 ∧ wk = wv ∧ (su_S f q z ^^^ sv) &&& mk = 0) ∨ (r = 0 ∧ ¬ (ins = 1 ∧ wk = wv ∧ (su_S f q z ^^^ sv) &&& mk = 0))) ∧ dw_S f z q u.2 u.1) (fun u : Int64 × Int32 => [(w, .inr (3, [.ref r, .int (nI z), .int (nI q), .int ins, .int a, .int b, .int wk, .long u.1, .int u.2])), (r, .inr (1, [.ref o, .int (nI n)])), (o, .inl (cI, 1200, .inl f))]) A9)) (cc := cX3_shows) (maxL := 6) (ret := (some .boolean)) (by decide) rfl (Nat.le_of_ble_eq_true rfl) ?_
  intro Pp Ee Ss Mm Aa Bb Me Cc hx hb hml hr ht hown hlk hnm A H locs hA hP hD hS hK ls hl
  have hl : lv_has ls 6 [(0, .ref w), (1, .int wv), (2, .long sv), (4, .long mk)] := hl
  change Ss.vm.findClass RX3 = some Mm.cls at hown
  by_cases hi0 : ins = 0
  ·
    subst hi0
    refine lv_aload_n hx hb dX3_shows_0 rfl (lv_at hl 0 rfl) ?_
    refine va_get (D := D) (ci := 3) (v := .int 0) (C := RX3) (T := TX3) (N := 9) hx hb ht inA_X3 hown hK.1 hP 0 rfl rfl 3 (by decide) (ht _ iw_235) (fun _ h9 => h9) rfl dX3_shows_1 ?_
    refine lv_if_eq (tgt := 33) hx hb dX3_shows_4 (by decide) (fun h => ?_) (fun h => ?_)
    ·
      refine lv_iconst (v := nI 0) hx hb dX3_shows_33 (by decide +kernel) ?_
      exact ds_iret hx hb hr hlk (by decide +kernel) (st, ks) ⟨Or.inr ⟨rfl, fun z => absurd z.1 (by decide)⟩, hk⟩ hP hD hS (Nat.le_of_ble_eq_true rfl) (Nat.le_of_ble_eq_true rfl) dX3_shows_34
    ·
      exact absurd rfl h
  ·
    obtain ⟨e1, hq⟩ := hz.resolve_left hi0
    subst e1
    refine lv_aload_n hx hb dX3_shows_0 rfl (lv_at hl 0 rfl) ?_
    refine va_get (D := D) (ci := 3) (v := .int 1) (C := RX3) (T := TX3) (N := 9) hx hb ht inA_X3 hown hK.1 hP 0 rfl rfl 3 (by decide) (ht _ iw_235) (fun _ h9 => h9) rfl dX3_shows_1 ?_
    refine lv_if_eq (tgt := 33) hx hb dX3_shows_4 (by decide) (fun h => ?_) (fun h => ?_)
    ·
      exact absurd h (by decide)
    ·
      refine lv_aload_n hx hb dX3_shows_7 rfl (lv_at hl 0 rfl) ?_
      refine va_get (D := D) (ci := 3) (v := .int wk) (C := RX3) (T := TX3) (N := 9) hx hb ht inA_X3 hown hK.1 hP 0 rfl rfl 6 (by decide) (ht _ iw_247) (fun _ h9 => h9) rfl dX3_shows_8 ?_
      refine lv_iload_n hx hb dX3_shows_11 rfl (lv_at hl 1 rfl) ?_
      refine lv_icmp_ne (tgt := 33) hx hb dX3_shows_12 (by decide) (fun h1 => ?_) (fun h1 => ?_)
      ·
        refine lv_iconst (v := nI 0) hx hb dX3_shows_33 (by decide +kernel) ?_
        exact ds_iret hx hb hr hlk (by decide +kernel) (st, ks) ⟨Or.inr ⟨rfl, fun z => h1 z.2.1⟩, hk⟩ hP hD hS (Nat.le_of_ble_eq_true rfl) (Nat.le_of_ble_eq_true rfl) dX3_shows_34
      ·
        refine lv_aload_n hx hb dX3_shows_15 rfl (lv_at hl 0 rfl) ?_
        refine ds_calll (wc := [(w, .inr (3, [.ref r, .int (nI z), .int (nI q), .int 1, .int a, .int b, .int wk, .long st, .int ks])), (r, .inr (1, [.ref o, .int (nI n)])), (o, .inl (cI, 1200, .inl f))]) (wr := []) (wo := (fun u2 : Unit => [(w, .inr (3, [.ref r, .int (nI z), .int (nI q), .int 1, .int a, .int b, .int wk, .long (su_S f q z), .int 1])), (r, .inr (1, [.ref o, .int (nI n)])), (o, .inl (cI, 1200, .inl f))])) (wn := (fun u2 : Unit => [(w, .inr (3, [.ref r, .int (nI z), .int (nI q), .int 1, .int a, .int b, .int wk, .long (su_S f q z), .int 1])), (r, .inr (1, [.ref o, .int (nI n)])), (o, .inl (cI, 1200, .inl f))])) (isC := [0, 1, 2]) (isR := []) hP hD hS hA ⟨rfl, rfl, by decide, by decide, by decide⟩ [0, 1, 2] (by decide) (fun _ => rfl) (fun hPc hDc => va_runV (As := []) (rest := []) ⟨hx, hb, hml, hown, ht⟩ (c_X3_strongSumHere Ll D cI cL w r z q 1 a b wk st ks o n f hq hk H.size) ⟨(callB_of 0 ht g_X3_strongSumHere rfl rfl rfl (ht _ iw_18) (ht _ iw_251) hd_X3_strongSumHere ⟨Nat.le_of_ble_eq_true rfl, Nat.le_of_ble_eq_true rfl⟩), (ht _ iw_252), (ht _ iw_253)⟩ (ds_pV hPc hDc hK (q0 := 0) rfl rfl) rfl rfl hl.1 rfl (lv_room (Nat.le_of_ble_eq_true rfl)) dX3_shows_16 ⟨Nat.le_of_ble_eq_true rfl, Nat.le_of_ble_eq_true rfl⟩) (fun r1 u2 H locs hp3 hP hD hS => ?_)
        have hP : va_P D vwCl [(w, .inr (3, [.ref r, .int (nI z), .int (nI q), .int 1, .int a, .int b, .int wk, .long (su_S f q z), .int 1])), (r, .inr (1, [.ref o, .int (nI n)])), (o, .inl (cI, 1200, .inl f))] H := hP
        have hD : va_D A [(w, .inr (3, [.ref r, .int (nI z), .int (nI q), .int 1, .int a, .int b, .int wk, .long (su_S f q z), .int 1])), (r, .inr (1, [.ref o, .int (nI n)])), (o, .inl (cI, 1200, .inl f))] := hD
        have hp3 : r1 = su_S f q z := hp3
        replace hp3 := Eq.symm hp3
        subst hp3
        refine lv_lload_n hx hb dX3_shows_19 rfl (lv_at hl 2 rfl) ?_
        refine lv_lxor hx hb dX3_shows_20 ?_
        refine lv_lload hx hb dX3_shows_21 (lv_at hl 3 rfl) ?_
        refine lv_land hx hb dX3_shows_23 ?_
        refine lv_lconst (v := 0) hx hb dX3_shows_24 (by decide +kernel) ?_
        refine W.lcmp hx hb dX3_shows_25 ?_
        refine lv_if_ne (tgt := 33) hx hb dX3_shows_26 (by decide) (fun h2 => ?_) (fun h2 => ?_)
        ·
          refine lv_iconst (v := nI 0) hx hb dX3_shows_33 (by decide +kernel) ?_
          exact ds_iret hx hb hr hlk (by decide +kernel) (su_S f q z, 1) ⟨Or.inr ⟨rfl, fun z => h2 ((lg_cmp_eq _ _).mpr z.2.2)⟩, Or.inr ⟨rfl, rfl⟩⟩ hP hD hS (Nat.le_of_ble_eq_true rfl) (Nat.le_of_ble_eq_true rfl) dX3_shows_34
        ·
          refine lv_iconst (v := nI 1) hx hb dX3_shows_29 (by decide +kernel) ?_
          refine lv_goto (tgt := 34) hx hb dX3_shows_30 (by decide) ?_
          exact ds_iret hx hb hr hlk (by decide +kernel) (su_S f q z, 1) ⟨Or.inl ⟨rfl, rfl, h1, (lg_cmp_eq _ _).mp h2⟩, Or.inr ⟨rfl, rfl⟩⟩ hP hD hS (Nat.le_of_ble_eq_true rfl) (Nat.le_of_ble_eq_true rfl) dX3_shows_34
