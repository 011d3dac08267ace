theorem seg_ok {s l0 l1 k a n : Nat} (h4 : 4 ≤ s) (hl0 : l0 ≤ 1200) (hl1 : l1 ≤ 1200) (hn : 0 < n) (h : (k = 0 ∧ a + n ≤ bn l0 s) ∨ (k = 1 ∧ a + n ≤ l1)) : sS s k a ≤ sE s l0 k a n ∧ sE s l0 k a n ≤ 2400 := by
  rcases h with ⟨rfl, h⟩ | ⟨rfl, h⟩
  · show s * a ≤ min (s * (a + n)) l0 ∧ min (s * (a + n)) l0 ≤ 2400
    have h1 := bn_lt (n := l0) (s := s) (i := a) (by omega) (by omega)
    rw [Nat.mul_comm a s] at h1
    have h2 : s * a ≤ s * (a + n) := Nat.mul_le_mul_left s (by omega)
    omega
  · show 1200 + a ≤ 1200 + a + n ∧ 1200 + a + n ≤ 2400
    omega
theorem seg_step {T fm M2 : Nat → Int32} {s l0 k i : Nat} {K a n : Nat → Nat} (h2 : sgv T l0 s fm K a n k) (hi : sS s (K k) (a k) ≤ i) (hE : i < sE s l0 (K k) (a k) (n k)) (hM : ∀ x, x < sgO s l0 K a n k + (i - sS s (K k) (a k)) → M2 x = fm x) :
    ∀ x, x < sgO s l0 K a n k + (i + 1 - sS s (K k) (a k)) → upd M2 (sgO s l0 K a n k + (i - sS s (K k) (a k))) (T i) x = fm x := by
  intro x hx
  by_cases e : x = sgO s l0 K a n k + (i - sS s (K k) (a k))
  · subst e
    rw [pk_us, h2 (i - sS s (K k) (a k)) (by omega)]
    congr 1
    omega
  · rw [pk_un e]
    exact hM x (by omega)
theorem mR_patch {lo ln lm : Nat} {fo fn O Z M1 fm : Nat → Int32} (h : mR lo ln fo fn O Z) (hlm : lm ≤ 1200) (hM : ∀ x, x < lm → M1 x = fm x) : mR lm ln (va_cpy fm fo 0 0 lm) fn (va_cpy M1 O 0 0 lm) (upd Z 0 (nI lm)) := by
  obtain ⟨h1, h2, h3, h4, h5, h6⟩ := h
  refine ⟨hlm, h2, pk_us, (pk_un (by decide)).trans h4, fun j hj => ?_, fun j hj => ?_⟩
  · rw [pk_cpy_in (by omega) (by omega), pk_cpy_in (by omega) (by omega)]
    exact hM _ (by omega)
  · rw [pk_cpy_out (by omega)]
    exact h6 j hj
/-- the tokens, a step -/
theorem mT_no {ek ef el g1 g2 g3 : Nat → Int32} {c : Nat} {kd nb : Int32} (h : mT c ek ef el g1 g2 g3) (hc : c < 1200) (hG : ¬ (0 < c ∧ ek (c - 1) = kd ∧ ef (c - 1) + el (c - 1) = nb)) :
    mT (tk_add ek ef el c kd nb).2.2.2 (tk_add ek ef el c kd nb).1 (tk_add ek ef el c kd nb).2.1 (tk_add ek ef el c kd nb).2.2.1 (upd g1 c kd) (upd g2 c nb) (upd (upd g3 c (nI 0)) c (upd g3 c (nI 0) c + nI 1)) ∧ (tk_add ek ef el c kd nb).2.2.2 = c + 1 := by
  unfold tk_add
  rw [if_neg hG]
  refine ⟨⟨by show c + 1 ≤ 1200; omega, fun j hj => ?_⟩, rfl⟩
  have hj : j < c + 1 := hj
  show upd g1 c kd j = upd ek c kd j ∧ upd g2 c nb j = upd ef c nb j ∧ upd (upd g3 c (nI 0)) c (upd g3 c (nI 0) c + nI 1) j = upd el c (nI 1) j
  by_cases e : j = c
  · subst e
    rw [pk_us, pk_us, pk_us, pk_us, pk_us, pk_us, pk_us]
    exact ⟨rfl, rfl, by decide⟩
  · rw [pk_un e, pk_un e, pk_un e, pk_un e, pk_un e, pk_un e, pk_un e]
    exact h.2 j (by omega)
theorem mT_yes {ek ef el g1 g2 g3 : Nat → Int32} {c : Nat} {kd nb : Int32} (h : mT c ek ef el g1 g2 g3) (hG : 0 < c ∧ ek (c - 1) = kd ∧ ef (c - 1) + el (c - 1) = nb) :
    mT (tk_add ek ef el c kd nb).2.2.2 (tk_add ek ef el c kd nb).1 (tk_add ek ef el c kd nb).2.1 (tk_add ek ef el c kd nb).2.2.1 g1 g2 (upd g3 (c - 1) (g3 (c - 1) + nI 1)) ∧ (tk_add ek ef el c kd nb).2.2.2 = c := by
  unfold tk_add
  rw [if_pos hG]
  refine ⟨⟨h.1, fun j hj => ?_⟩, rfl⟩
  have hj : j < c := hj
  show g1 j = ek j ∧ g2 j = ef j ∧ upd g3 (c - 1) (g3 (c - 1) + nI 1) j = upd el (c - 1) (el (c - 1) + nI 1) j
  obtain ⟨a1, a2, a3⟩ := h.2 j hj
  refine ⟨a1, a2, ?_⟩
  by_cases e : j = c - 1
  · subst e
    rw [pk_us, pk_us, a3]
  · rw [pk_un e, pk_un e]
    exact a3
theorem more_new {T : Nat → Int32} {lo ln s p c : Nat} {bf : Option Nat} {ek ef el em g1 g2 g3 : Nat → Int32} (hl : ln ≤ 1200) (hT : mT c ek ef el g1 g2 g3) (h : ∃ K a n, TI T lo ln s (p, bf, (ek, ef, el, c), em) K a n) (hc : 0 < c) (hg : g1 (c - 1) = nI 1) :
    0 < c ∧ ek (c - 1) = nI 1 ∧ ef (c - 1) + el (c - 1) = nI p := by
  obtain ⟨K, a, n, h1, -, -, -, -, -, -, h8⟩ := h
  obtain ⟨t1, t2, t3, t4, t5⟩ := h1 (c - 1) (show c - 1 < c by omega)
  have e1 : ek (c - 1) = nI 1 := (hT.2 (c - 1) (by omega)).1.symm.trans hg
  have hK : K (c - 1) = 1 := by
    rcases t5 with ⟨z, _⟩ | ⟨z, _⟩
    · rw [show ek (c - 1) = nI (K (c - 1)) from t1, z] at e1
      exact absurd ((nI_eq (by omega) (by omega)).mp e1) (by decide)
    · exact z
  have e2 : a (c - 1) + n (c - 1) = p := (h8 hc hK).2
  refine ⟨hc, e1, ?_⟩
  rw [show ef (c - 1) = nI (a (c - 1)) from t2, show el (c - 1) = nI (n (c - 1)) from t3, nI_add, e2]
theorem more_copy {T : Nat → Int32} {lo ln s p c l : Nat} {bf : Option Nat} {ek ef el em : Nat → Int32} (h : ∃ K a n, TI T lo ln s (p, bf, (ek, ef, el, c), em) K a n) (hc : 0 < c) (hb : bf = some l) :
    0 < c ∧ ek (c - 1) = nI 0 ∧ ef (c - 1) + el (c - 1) = nI (l + 1) := by
  obtain ⟨K, a, n, h1, -, -, -, -, -, h7, h8⟩ := h
  obtain ⟨t1, t2, t3, t4, t5⟩ := h1 (c - 1) (show c - 1 < c by omega)
  have hK : K (c - 1) = 0 := by
    rcases t5 with ⟨z, _⟩ | ⟨z, _⟩
    · exact z
    · have e : bf = none := (h8 hc z).1
      rw [hb] at e
      cases e
  have e2 : bf = some (a (c - 1) + n (c - 1) - 1) := h7 hc hK
  rw [hb] at e2
  have e3 : l = a (c - 1) + n (c - 1) - 1 := Option.some.inj e2
  have t4 : 0 < n (c - 1) := t4
  refine ⟨hc, by rw [show ek (c - 1) = nI (K (c - 1)) from t1, hK], ?_⟩
  rw [show ef (c - 1) = nI (a (c - 1)) from t2, show el (c - 1) = nI (n (c - 1)) from t3, nI_add]
  congr 1
  omega
theorem more_copy_no {T : Nat → Int32} {lo ln s p c x : Nat} {bf : Option Nat} {ek ef el em : Nat → Int32} (hb3 : bn lo s ≤ 300) (hl : ln ≤ 1200) (hx : x < 300) (h : ∃ K a n, TI T lo ln s (p, bf, (ek, ef, el, c), em) K a n) (hG : 0 < c ∧ ek (c - 1) = nI 0 ∧ ef (c - 1) + el (c - 1) = nI x) :
    ∃ l, bf = some l ∧ x = l + 1 := by
  obtain ⟨K, a, n, h1, -, -, -, -, -, h7, -⟩ := h
  obtain ⟨t1, t2, t3, t4, t5⟩ := h1 (c - 1) (show c - 1 < c by omega)
  have t4 : 0 < n (c - 1) := t4
  have hK : K (c - 1) = 0 ∧ a (c - 1) + n (c - 1) ≤ bn lo s := by
    rcases t5 with z | ⟨z, _⟩
    · exact z
    · have e1 := hG.2.1
      rw [show ek (c - 1) = nI (K (c - 1)) from t1, z] at e1
      exact absurd ((nI_eq (by omega) (by omega)).mp e1) (by decide)
  have e3 := hG.2.2
  rw [show ef (c - 1) = nI (a (c - 1)) from t2, show el (c - 1) = nI (n (c - 1)) from t3, nI_add] at e3
  have e4 := (nI_eq (by omega) (by omega)).mp e3
  exact ⟨a (c - 1) + n (c - 1) - 1, h7 hG.1 hK.1, by omega⟩
theorem cpy_all {O T : Nat → Int32} {j : Nat} (h : j < 2400) : va_cpy O T 0 0 2400 j = O j := by
  rw [pk_cpy_in (by omega) (by omega), Nat.zero_add, Nat.sub_zero]
theorem TI_T {T T' : Nat → Int32} {lo ln s : Nat} (hlo : lo ≤ 1200) (hln : ln ≤ 1200) (h4 : 4 ≤ s) (hT : ∀ j, j < 2400 → T' j = T j) {t : dl_T} {K a n : Nat → Nat} (h : TI T lo ln s t K a n) : TI T' lo ln s t K a n := by
  obtain ⟨h1, h2, h3⟩ := h
  refine ⟨h1, fun j hj i hi => ?_, h3⟩
  obtain ⟨-, -, -, t4, t5⟩ := h1 j hj
  have hs := seg_ok h4 hlo hln t4 t5
  rw [h2 j hj i hi, hT _ (by omega)]
