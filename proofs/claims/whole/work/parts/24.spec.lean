abbrev rok (x : Int32) : Prop := x = 0 ∨ x = nI 1
abbrev iok (y : Int32) (n : Nat) : Prop := ¬ (y < 0 ∨ nI n ≤ y)
abbrev gok (y z : Int32) (n : Nat) : Prop := ¬ (y < 0 ∨ z < 0 ∨ nI n - z < y)
abbrev bok (x y : Int32) : Prop := ¬ (x < nI 4 ∨ nI 256 < x ∨ y < 0 ∨ nI 64 < y)
abbrev wok (y : Int32) : Prop := ¬ (y < 0 ∨ nI 2 < y)
def rsel {α : Type} (x : Int32) (a b : α) : α := if x = 0 then a else b
theorem rsel_0 {α : Type} {a b : α} : rsel 0 a b = a := if_pos rfl
theorem rsel_1 {α : Type} {a b : α} : rsel (nI 1) a b = b := if_neg (by decide)
/-- what is thrown: 0 nothing, 1 IllegalArgument, 2 IndexOutOfBounds -/
def e_size (x y : Int32) : Int32 := if rok x ∧ ¬ (y < 0 ∨ nI 1200 < y) then 0 else 1
def e_put (x y : Int32) (lo ln : Nat) : Int32 := if rok x then (if iok y (rsel x lo ln) then 0 else 2) else 1
def e_move (x y z v w : Int32) (lo ln : Nat) : Int32 := if rok x ∧ rok z then (if gok y w (rsel x lo ln) ∧ gok v w (rsel z lo ln) then 0 else 2) else 1
def e_sum (x y z : Int32) (lo ln : Nat) : Int32 := if rok x then (if gok y z (rsel x lo ln) then 0 else 2) else 1
def e_find (x y z w : Int32) (lo : Nat) : Int32 := if bok x y then (if ¬ (z < 0 ∨ nI (bn lo x.toNatClampNeg) ≤ z ∨ w < 0) then 0 else 2) else 1
def e_delta (x y : Int32) : Int32 := if bok x y then 0 else 1
def e_token (x y : Int32) (c : Nat) : Int32 := if wok y then (if iok x c then 0 else 2) else 1
def e_count (y : Int32) : Int32 := if wok y then 0 else 1
/-- the two rows -/
abbrev rw_T : Type := Nat × (Nat → Int32) × Nat × (Nat → Int32)
def n_size (x y : Int32) (t : rw_T) : rw_T := if e_size x y = 0 then (if x = 0 then (y.toNatClampNeg, rz t.2.1 t.1 y.toNatClampNeg, t.2.2.1, t.2.2.2) else (t.1, t.2.1, y.toNatClampNeg, rz t.2.2.2 t.2.2.1 y.toNatClampNeg)) else t
def n_put (x y : Int32) (v : Int64) (t : rw_T) : rw_T := if e_put x y t.1 t.2.2.1 = 0 then (if x = 0 then (t.1, wr t.2.1 y.toNatClampNeg v (min 8 (t.1 - y.toNatClampNeg)), t.2.2.1, t.2.2.2) else (t.1, t.2.1, t.2.2.1, wr t.2.2.2 y.toNatClampNeg v (min 8 (t.2.2.1 - y.toNatClampNeg)))) else t
def n_move (x y z v w : Int32) (t : rw_T) : rw_T := if e_move x y z v w t.1 t.2.2.1 = 0 then (if z = 0 then (t.1, va_cpy (rsel x t.2.1 t.2.2.2) t.2.1 y.toNatClampNeg v.toNatClampNeg w.toNatClampNeg, t.2.2.1, t.2.2.2) else (t.1, t.2.1, t.2.2.1, va_cpy (rsel x t.2.1 t.2.2.2) t.2.2.2 y.toNatClampNeg v.toNatClampNeg w.toNatClampNeg)) else t
def v_octet (x y : Int32) (t : rw_T) : Int32 := rsel x t.2.1 t.2.2.2 y.toNatClampNeg
def v_weak (x y z : Int32) (t : rw_T) : Int32 := su_W (rsel x t.2.1 t.2.2.2) y.toNatClampNeg z.toNatClampNeg
def v_strong (x y z : Int32) (t : rw_T) : Int64 := su_S (rsel x t.2.1 t.2.2.2) y.toNatClampNeg z.toNatClampNeg
def v_find (s b k p : Nat) (t : rw_T) : Int32 := oI (fsN (fun q => decide (ft t.2.1 t.2.2.2 t.2.2.1 (ds_mask b) (k * s) q (bl t.1 s k))) p (t.2.2.1 - p))
def v_token (x y : Int32) (fk ff fl : Nat → Int32) : Int32 := if y = 0 then fk x.toNatClampNeg else if y = nI 1 then ff x.toNatClampNeg else fl x.toNatClampNeg
def v_count (y : Int32) (lo ln c : Nat) : Int32 := if y = 0 then nI lo else if y = nI 1 then nI ln else nI c
/-- numbers that are no less than 0 -/
theorem iok_nat {y : Int32} {n : Nat} (hn : n ≤ 1200) (h : iok y n) : ∃ q, q < n ∧ y = nI q := by
  have h1 : ¬ y < 0 := fun z => h (Or.inl z)
  obtain ⟨q, hq, rfl⟩ := nI_of h1
  refine ⟨q, ?_, rfl⟩
  rcases Nat.lt_or_ge q n with e | e
  · exact e
  · exact absurd (Or.inr ((nI_leI (by omega) hq).mpr e)) h
theorem le_nat {y : Int32} {n : Nat} (hn : n ≤ 1200) (h : ¬ (y < 0 ∨ nI n < y)) : ∃ q, q ≤ n ∧ y = nI q := by
  have h1 : ¬ y < 0 := fun z => h (Or.inl z)
  obtain ⟨q, hq, rfl⟩ := nI_of h1
  refine ⟨q, ?_, rfl⟩
  rcases Nat.lt_or_ge n q with e | e
  · exact absurd (Or.inr ((nI_ltI (by omega) hq).mpr e)) h
  · exact e
theorem sub_lt_big {n k p : Nat} (hn : n ≤ 1200) (hk : k < 2 ^ 31) (hp : p < 2 ^ 31) : nI n - nI k < nI p ↔ n < p + k := by
  have e : (nI n - nI k).toInt = (n : Int) - (k : Int) := by
    rw [Int32.toInt_sub, nI_toInt (by omega), nI_toInt hk]
    exact Int.bmod_eq_of_le (by omega) (by omega)
  rw [Int32.lt_iff_toInt_lt, e, nI_toInt hp]
  omega
theorem gok_nat {y z : Int32} {n : Nat} (hn : n ≤ 1200) (h : gok y z n) : ∃ p k, p + k ≤ n ∧ y = nI p ∧ z = nI k := by
  have h1 : ¬ y < 0 := fun q => h (Or.inl q)
  have h2 : ¬ z < 0 := fun q => h (Or.inr (Or.inl q))
  obtain ⟨p, hp, rfl⟩ := nI_of h1
  obtain ⟨k, hk, rfl⟩ := nI_of h2
  refine ⟨p, k, ?_, rfl, rfl⟩
  rcases Nat.lt_or_ge n (p + k) with e | e
  · exact absurd (Or.inr (Or.inr ((sub_lt_big hn hk hp).mpr e))) h
  · exact e
theorem bok_nat {x y : Int32} (h : bok x y) : ∃ s b, 4 ≤ s ∧ s ≤ 256 ∧ b ≤ 64 ∧ x = nI s ∧ y = nI b := by
  have h1 : ¬ x < 0 := fun q => h (Or.inl (Int32.lt_trans q (by decide)))
  obtain ⟨s, hs, rfl⟩ := nI_of h1
  obtain ⟨b, hb, rfl⟩ := le_nat (n := 64) (by omega) (fun q => h (Or.inr (Or.inr q)))
  refine ⟨s, b, ?_, ?_, hb, rfl, rfl⟩
  · rcases Nat.lt_or_ge s 4 with e | e
    · exact absurd (Or.inl ((nI_ltI hs (by omega)).mpr e)) h
    · exact e
  · rcases Nat.lt_or_ge 256 s with e | e
    · exact absurd (Or.inr (Or.inl ((nI_ltI (by omega) hs).mpr e))) h
    · exact e
theorem fsN_least {P : Nat → Bool} {p : Nat} : ∀ (k i : Nat), i ≤ p → p < i + k → P p = true → (∀ j, i ≤ j → j < p → ¬ P j = true) → fsN P i k = some p
  | 0, _, _, h2, _, _ => by omega
  | k + 1, i, h1, h2, h3, h4 => by
    by_cases e : P i = true
    · have e2 : i = p := by
        rcases Nat.lt_or_ge i p with z | z
        · exact absurd e (h4 i (Nat.le_refl i) z)
        · omega
      subst e2
      exact if_pos e
    · rw [show fsN P i (k + 1) = fsN P (i + 1) k from if_neg e]
      have e2 : i ≠ p := fun z => e (z ▸ h3)
      exact fsN_least k (i + 1) (by omega) (by omega) h3 (fun j h5 h6 => h4 j (by omega) h6)
theorem fsN_none {P : Nat → Bool} : ∀ (k i : Nat), (∀ j, i ≤ j → ¬ P j = true) → fsN P i k = none
  | 0, _, _ => rfl
  | k + 1, i, h => by
    rw [show fsN P i (k + 1) = fsN P (i + 1) k from if_neg (h i (Nat.le_refl i))]
    exact fsN_none k (i + 1) (fun j hj => h j (by omega))
/-- find: the contract's words as the one number -/
theorem find_v {fo fn : Nat → Int32} {lo ln s b k p0 : Nat} {r : Int32} (hk : 0 < bl lo s k)
    (h : (∃ p, p0 ≤ p ∧ ft fo fn ln (ds_mask b) (k * s) p (bl lo s k) ∧ (∀ j, p0 ≤ j → j < p → ¬ ft fo fn ln (ds_mask b) (k * s) j (bl lo s k)) ∧ r = nI p) ∨ ((∀ j, p0 ≤ j → ¬ ft fo fn ln (ds_mask b) (k * s) j (bl lo s k)) ∧ r = -1)) :
    r = v_find s b k p0 (lo, fo, ln, fn) := by
  rcases h with ⟨p, h1, h2, h3, rfl⟩ | ⟨h1, rfl⟩
  · have h4 := h2.1
    unfold v_find
    rw [fsN_least (p := p) (ln - p0) p0 h1 (by omega) (decide_eq_true h2) (fun j hj hjp z => h3 j hj hjp (of_decide_eq_true z))]
    rfl
  · unfold v_find
    rw [fsN_none (ln - p0) p0 (fun j hj z => h1 j hj (of_decide_eq_true z))]
    rfl
/-- the slow reckoner's rows beside the class's -/
def mR (lo ln : Nat) (fo fn O Z : Nat → Int32) : Prop := lo ≤ 1200 ∧ ln ≤ 1200 ∧ Z 0 = nI lo ∧ Z 1 = nI ln ∧ (∀ j, j < lo → O j = fo j) ∧ (∀ j, j < ln → O (1200 + j) = fn j)
def mT (c : Nat) (fk ff fl gk gf gl : Nat → Int32) : Prop := c ≤ 1200 ∧ ∀ j, j < c → gk j = fk j ∧ gf j = ff j ∧ gl j = fl j
def mD (hd : Int32) (lm c : Nat) (fm fk ff fl T Y : Nat → Int32) (wd : Int32) : Prop :=
  hd = 0 ∨ (hd = 1 ∧ lm ≤ 1200 ∧ ∃ (lo' ln' s : Nat) (bf : Option Nat) (K a n : Nat → Nat), wd = nI s ∧ Y 0 = nI lo' ∧ lo' ≤ 1200 ∧ ln' ≤ 1200 ∧ 4 ≤ s ∧ s ≤ 256 ∧ TI T lo' ln' s (lm, bf, (fk, ff, fl, c), fm) K a n)
