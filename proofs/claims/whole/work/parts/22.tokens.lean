def updN (f : Nat → Nat) (m v : Nat) : Nat → Nat := fun j => if j = m then v else f j
theorem updN_s {f : Nat → Nat} {m v : Nat} : updN f m v m = v := if_pos rfl
theorem updN_n {f : Nat → Nat} {m v j : Nat} (h : j ≠ m) : updN f m v j = f j := if_neg h
def sS (s k a : Nat) : Nat := if k = 0 then s * a else 1200 + a
def sE (s lo k a n : Nat) : Nat := if k = 0 then min (s * (a + n)) lo else 1200 + a + n
def sgO (s lo : Nat) (K a n : Nat → Nat) : Nat → Nat
  | 0 => 0
  | j + 1 => sgO s lo K a n j + (sE s lo (K j) (a j) (n j) - sS s (K j) (a j))
theorem sgO_congr {s lo : Nat} {K a n K' a' n' : Nat → Nat} : ∀ m, (∀ j, j < m → K' j = K j ∧ a' j = a j ∧ n' j = n j) → sgO s lo K' a' n' m = sgO s lo K a n m
  | 0, _ => rfl
  | m + 1, h => by
    show sgO s lo K' a' n' m + (sE s lo (K' m) (a' m) (n' m) - sS s (K' m) (a' m)) = sgO s lo K a n m + (sE s lo (K m) (a m) (n m) - sS s (K m) (a m))
    obtain ⟨e1, e2, e3⟩ := h m (Nat.lt_succ_self m)
    rw [sgO_congr m (fun j hj => h j (Nat.lt_succ_of_lt hj)), e1, e2, e3]
theorem sgO_mono {s lo : Nat} {K a n : Nat → Nat} : ∀ m j, j ≤ m → sgO s lo K a n j ≤ sgO s lo K a n m
  | 0, j, h => by
    obtain rfl : j = 0 := by omega
    exact Nat.le_refl _
  | m + 1, j, h => by
    rcases Nat.lt_or_ge m j with e | e
    · obtain rfl : j = m + 1 := by omega
      exact Nat.le_refl _
    · exact Nat.le_trans (sgO_mono m j e) (Nat.le_add_right _ _)
/-- one token -/
def tkv (lo ln s : Nat) (fk ff fl : Nat → Int32) (K a n : Nat → Nat) (j : Nat) : Prop :=
  fk j = nI (K j) ∧ ff j = nI (a j) ∧ fl j = nI (n j) ∧ 0 < n j ∧ ((K j = 0 ∧ a j + n j ≤ bn lo s) ∨ (K j = 1 ∧ a j + n j ≤ ln))
def sgv (T : Nat → Int32) (lo s : Nat) (fm : Nat → Int32) (K a n : Nat → Nat) (j : Nat) : Prop :=
  ∀ i, i < sE s lo (K j) (a j) (n j) - sS s (K j) (a j) → fm (sgO s lo K a n j + i) = T (sS s (K j) (a j) + i)
theorem TI_ext {T fm fm' fk ff fl fk' ff' fl' : Nat → Int32} {K a n : Nat → Nat} {s lo ln m kk aa nn : Nat}
    (h : ∀ j, j < m → tkv lo ln s fk ff fl K a n j) (hm : ∀ j, j < m → sgv T lo s fm K a n j)
    (e1 : ∀ j, j < m → fk' j = fk j ∧ ff' j = ff j ∧ fl' j = fl j) (e2 : fk' m = nI kk ∧ ff' m = nI aa ∧ fl' m = nI nn) (hn : 0 < nn) (hk : (kk = 0 ∧ aa + nn ≤ bn lo s) ∨ (kk = 1 ∧ aa + nn ≤ ln))
    (f1 : ∀ x, x < sgO s lo K a n m → fm' x = fm x) (f2 : ∀ i, i < sE s lo kk aa nn - sS s kk aa → fm' (sgO s lo K a n m + i) = T (sS s kk aa + i)) :
    (∀ j, j < m + 1 → tkv lo ln s fk' ff' fl' (updN K m kk) (updN a m aa) (updN n m nn) j) ∧ (∀ j, j < m + 1 → sgv T lo s fm' (updN K m kk) (updN a m aa) (updN n m nn) j) ∧
    sgO s lo (updN K m kk) (updN a m aa) (updN n m nn) (m + 1) = sgO s lo K a n m + (sE s lo kk aa nn - sS s kk aa) := by
  have hc : ∀ q, q ≤ m → sgO s lo (updN K m kk) (updN a m aa) (updN n m nn) q = sgO s lo K a n q := fun q hq => sgO_congr q (fun j hj => ⟨updN_n (by omega), updN_n (by omega), updN_n (by omega)⟩)
  refine ⟨fun j hj => ?_, fun j hj => ?_, ?_⟩
  · unfold tkv
    by_cases e : j = m
    · subst e
      rw [updN_s, updN_s, updN_s]
      exact ⟨e2.1, e2.2.1, e2.2.2, hn, hk⟩
    · rw [updN_n e, updN_n e, updN_n e]
      obtain ⟨q1, q2, q3⟩ := e1 j (by omega)
      rw [q1, q2, q3]
      exact h j (by omega)
  · unfold sgv
    intro i
    rw [hc j (by omega)]
    by_cases e : j = m
    · subst e
      rw [updN_s, updN_s, updN_s]
      exact f2 i
    · rw [updN_n e, updN_n e, updN_n e]
      intro hi
      have h1 : sgO s lo K a n (j + 1) ≤ sgO s lo K a n m := sgO_mono m (j + 1) (by omega)
      have h2 : sgO s lo K a n (j + 1) = sgO s lo K a n j + (sE s lo (K j) (a j) (n j) - sS s (K j) (a j)) := rfl
      rw [f1 _ (by omega)]
      exact hm j (by omega) i hi
  · show sgO s lo (updN K m kk) (updN a m aa) (updN n m nn) m + (sE s lo (updN K m kk m) (updN a m aa m) (updN n m nn m) - sS s (updN K m kk m) (updN a m aa m)) = _
    rw [hc m (Nat.le_refl m), updN_s, updN_s, updN_s]
def TI (T : Nat → Int32) (lo ln s : Nat) (t : dl_T) (K a n : Nat → Nat) : Prop :=
  (∀ j, j < t.2.2.1.2.2.2 → tkv lo ln s t.2.2.1.1 t.2.2.1.2.1 t.2.2.1.2.2.1 K a n j) ∧ (∀ j, j < t.2.2.1.2.2.2 → sgv T lo s t.2.2.2 K a n j) ∧ sgO s lo K a n t.2.2.1.2.2.2 = t.1 ∧
  t.2.2.1.2.2.2 ≤ t.1 ∧ t.1 ≤ ln ∧ (t.2.2.1.2.2.2 = 0 → t.2.1 = none) ∧ (0 < t.2.2.1.2.2.2 → K (t.2.2.1.2.2.2 - 1) = 0 → t.2.1 = some (a (t.2.2.1.2.2.2 - 1) + n (t.2.2.1.2.2.2 - 1) - 1)) ∧
  (0 < t.2.2.1.2.2.2 → K (t.2.2.1.2.2.2 - 1) = 1 → t.2.1 = none ∧ a (t.2.2.1.2.2.2 - 1) + n (t.2.2.1.2.2.2 - 1) = t.1)
theorem bl_end {n s b : Nat} (h0 : 0 < s) (h : b < bn n s) : min (s * (b + 1)) n = s * b + bl n s b := by
  have h1 := bn_lt h0 h
  rw [Nat.mul_comm b s] at h1
  have e1 : s * (b + 1) = s * b + s := by rw [Nat.mul_add, Nat.mul_one]
  have h2 := bl_min h0 h
  rw [Nat.mul_comm b s] at h2
  rw [e1, ← h2]
  by_cases e : n - s * b < s
  · rw [if_pos e]
    omega
  · rw [if_neg e]
    omega
theorem TI_0 {T : Nat → Int32} {lo ln s : Nat} {fk ff fl fm : Nat → Int32} (K a n : Nat → Nat) : TI T lo ln s (0, none, (fk, ff, fl, 0), fm) K a n :=
  ⟨fun j hj => absurd hj (Nat.not_lt_zero _), fun j hj => absurd hj (Nat.not_lt_zero _), rfl, Nat.le_refl _, Nat.zero_le _, fun _ => rfl, fun h => absurd h (Nat.lt_irrefl _), fun h => absurd h (Nat.lt_irrefl _)⟩
set_option maxHeartbeats 1000000 in
/-- NEW: one octet of the new row -/
theorem TI_new {T : Nat → Int32} {fn : Nat → Int32} {lo ln s p c : Nat} {bf : Option Nat} {fk ff fl fm : Nat → Int32} {K a n : Nat → Nat} (hT : ∀ i, i < ln → T (1200 + i) = fn i) (hl : ln ≤ 1200) (hp : p < ln) (h : TI T lo ln s (p, bf, (fk, ff, fl, c), fm) K a n) :
    ∃ K' a' n', TI T lo ln s (p + 1, none, tk_add fk ff fl c (nI 1) (nI p), va_cpy fn fm p p 1) K' a' n' := by
  obtain ⟨h1, h2, h3, h4, h5, h6, h7, h8⟩ := h
  change ∀ j, j < c → tkv lo ln s fk ff fl K a n j at h1
  change ∀ j, j < c → sgv T lo s fm K a n j at h2
  change sgO s lo K a n c = p at h3
  change c ≤ p at h4
  change 0 < c → K (c - 1) = 0 → bf = some (a (c - 1) + n (c - 1) - 1) at h7
  change 0 < c → K (c - 1) = 1 → bf = none ∧ a (c - 1) + n (c - 1) = p at h8
  have hcp : va_cpy fn fm p p 1 p = fn p := by rw [pk_cpy_in (Nat.le_refl p) (by omega), Nat.sub_self, Nat.add_zero]
  have hco : ∀ x, x < p → va_cpy fn fm p p 1 x = fm x := fun x hx => pk_cpy_out (Or.inl hx)
  unfold tk_add
  by_cases g : 0 < c ∧ fk (c - 1) = nI 1 ∧ ff (c - 1) + fl (c - 1) = nI p
  · rw [if_pos g]
    obtain ⟨t1, t2, t3, t4, t5⟩ := h1 (c - 1) (by omega)
    have hK : K (c - 1) = 1 := by
      rcases t5 with ⟨z, _⟩ | ⟨z, _⟩
      · rw [t1, z] at g
        exact absurd ((nI_eq (by omega) (by omega)).mp g.2.1) (by decide)
      · exact z
    have hap := (h8 g.1 hK).2
    have e0 : c = (c - 1) + 1 := by omega
    have e1 : sgO s lo K a n (c - 1) + n (c - 1) = p := by
      rw [e0] at h3
      have : sgO s lo K a n (c - 1) + (sE s lo (K (c - 1)) (a (c - 1)) (n (c - 1)) - sS s (K (c - 1)) (a (c - 1))) = p := h3
      rw [hK] at this
      have e2 : sE s lo 1 (a (c - 1)) (n (c - 1)) = 1200 + a (c - 1) + n (c - 1) := rfl
      have e3 : sS s 1 (a (c - 1)) = 1200 + a (c - 1) := rfl
      rw [e2, e3] at this
      omega
    have hf2 : ∀ i, i < sE s lo 1 (a (c - 1)) (n (c - 1) + 1) - sS s 1 (a (c - 1)) → (va_cpy fn fm p p 1) (sgO s lo K a n (c - 1) + i) = T (sS s 1 (a (c - 1)) + i) := by
      intro i hi
      have e2 : sE s lo 1 (a (c - 1)) (n (c - 1) + 1) - sS s 1 (a (c - 1)) = n (c - 1) + 1 := by
        show 1200 + a (c - 1) + (n (c - 1) + 1) - (1200 + a (c - 1)) = _
        omega
      rw [e2] at hi
      show va_cpy fn fm p p 1 (sgO s lo K a n (c - 1) + i) = T (1200 + a (c - 1) + i)
      by_cases ei : i = n (c - 1)
      · rw [ei, e1, hcp, show 1200 + a (c - 1) + n (c - 1) = 1200 + p by omega, hT p hp]
      · rw [hco _ (by omega)]
        have := h2 (c - 1) (by omega) i
        rw [hK] at this
        refine this ?_
        show i < 1200 + a (c - 1) + n (c - 1) - (1200 + a (c - 1))
        omega
    obtain ⟨x1, x2, x3⟩ := TI_ext (T := T) (fm := fm) (fm' := va_cpy fn fm p p 1) (fk := fk) (ff := ff) (fl := fl) (fk' := fk) (ff' := ff) (fl' := upd fl (c - 1) (fl (c - 1) + nI 1)) (K := K) (a := a) (n := n) (s := s) (lo := lo) (ln := ln) (m := c - 1) (kk := 1) (aa := a (c - 1)) (nn := n (c - 1) + 1)
      (fun j hj => h1 j (by omega)) (fun j hj => h2 j (by omega)) (fun j hj => ⟨rfl, rfl, pk_un (by omega)⟩) ⟨by rw [t1, hK], t2, by rw [pk_us, t3, nI_add]⟩ (by omega) (Or.inr ⟨rfl, by omega⟩)
      (fun x hx => hco x (by omega)) hf2
    rw [← e0] at x1 x2 x3
    have e2 : sE s lo 1 (a (c - 1)) (n (c - 1) + 1) - sS s 1 (a (c - 1)) = n (c - 1) + 1 := by
      show 1200 + a (c - 1) + (n (c - 1) + 1) - (1200 + a (c - 1)) = _
      omega
    rw [e2] at x3
    refine ⟨updN K (c - 1) 1, updN a (c - 1) (a (c - 1)), updN n (c - 1) (n (c - 1) + 1), x1, x2, by show _ = p + 1; rw [x3]; omega, by show c ≤ p + 1; omega, by show p + 1 ≤ ln; omega, fun _ => rfl, fun _ hz => ?_, fun _ _ => ⟨rfl, ?_⟩⟩
    · change updN K (c - 1) 1 (c - 1) = 0 at hz
      rw [updN_s] at hz
      exact absurd hz (by decide)
    · show updN a (c - 1) (a (c - 1)) (c - 1) + updN n (c - 1) (n (c - 1) + 1) (c - 1) = p + 1
      rw [updN_s, updN_s]
      omega
  · rw [if_neg g]
    have hf2 : ∀ i, i < sE s lo 1 (p) (1) - sS s 1 (p) → (va_cpy fn fm p p 1) (sgO s lo K a n (c) + i) = T (sS s 1 (p) + i) := by
      intro i hi
      have e2 : sE s lo 1 p 1 - sS s 1 p = 1 := by
        show 1200 + p + 1 - (1200 + p) = 1
        omega
      rw [e2] at hi
      obtain rfl : i = 0 := by omega
      show va_cpy fn fm p p 1 (sgO s lo K a n c + 0) = T (1200 + p + 0)
      rw [h3, Nat.add_zero, Nat.add_zero, hcp, hT p hp]
    obtain ⟨x1, x2, x3⟩ := TI_ext (T := T) (fm := fm) (fm' := va_cpy fn fm p p 1) (fk := fk) (ff := ff) (fl := fl) (fk' := upd fk c (nI 1)) (ff' := upd ff c (nI p)) (fl' := upd fl c (nI 1)) (K := K) (a := a) (n := n) (s := s) (lo := lo) (ln := ln) (m := c) (kk := 1) (aa := p) (nn := 1)
      h1 h2 (fun j hj => ⟨pk_un (by omega), pk_un (by omega), pk_un (by omega)⟩) ⟨pk_us, pk_us, pk_us⟩ (by omega) (Or.inr ⟨rfl, by omega⟩)
      (fun x hx => hco x (by omega)) hf2
    have e2 : sE s lo 1 p 1 - sS s 1 p = 1 := by
      show 1200 + p + 1 - (1200 + p) = 1
      omega
    rw [e2, h3] at x3
    refine ⟨updN K c 1, updN a c p, updN n c 1, x1, x2, x3, by show c + 1 ≤ p + 1; omega, by show p + 1 ≤ ln; omega, fun _ => rfl, fun _ hz => ?_, fun _ _ => ⟨rfl, ?_⟩⟩
    · change updN K c 1 (c + 1 - 1) = 0 at hz
      rw [Nat.add_sub_cancel, updN_s] at hz
      exact absurd hz (by decide)
    · show updN a c p (c + 1 - 1) + updN n c 1 (c + 1 - 1) = p + 1
      rw [Nat.add_sub_cancel, updN_s, updN_s]
set_option maxHeartbeats 1000000 in
/-- COPY: a block of the old row -/
theorem TI_cop {T : Nat → Int32} {fo : Nat → Int32} {lo ln s p c b : Nat} {bf : Option Nat} {fk ff fl fm : Nat → Int32} {K a n : Nat → Nat} (hT : ∀ i, i < lo → T i = fo i) (h0 : 4 ≤ s) (hlo : lo ≤ 1200) (hl : ln ≤ 1200) (hb : b < bn lo s) (hp : p + bl lo s b ≤ ln) (h : TI T lo ln s (p, bf, (fk, ff, fl, c), fm) K a n) :
    ∃ K' a' n', TI T lo ln s (p + bl lo s b, some b, tk_add fk ff fl c (nI 0) (nI b), va_cpy fo fm (b * s) p (bl lo s b)) K' a' n' := by
  obtain ⟨h1, h2, h3, h4, h5, h6, h7, h8⟩ := h
  change ∀ j, j < c → tkv lo ln s fk ff fl K a n j at h1
  change ∀ j, j < c → sgv T lo s fm K a n j at h2
  change sgO s lo K a n c = p at h3
  change c ≤ p at h4
  change 0 < c → K (c - 1) = 0 → bf = some (a (c - 1) + n (c - 1) - 1) at h7
  change 0 < c → K (c - 1) = 1 → bf = none ∧ a (c - 1) + n (c - 1) = p at h8
  have hb3 := bn_300 hlo h0
  have hin := bl_in (n := lo) (s := s) (i := b) (by omega) hb
  have hend := bl_end (n := lo) (s := s) (b := b) (by omega) hb
  have hlt := bn_lt (n := lo) (s := s) (i := b) (by omega) hb
  rw [Nat.mul_comm b s] at hin hlt ⊢
  have hcp : ∀ i, i < bl lo s b → va_cpy fo fm (s * b) p (bl lo s b) (p + i) = fo (s * b + i) := fun i hi => by rw [pk_cpy_in (by omega) (by omega), show p + i - p = i by omega]
  have hco : ∀ x, x < p → va_cpy fo fm (s * b) p (bl lo s b) x = fm x := fun x hx => pk_cpy_out (Or.inl hx)
  unfold tk_add
  by_cases g : 0 < c ∧ fk (c - 1) = nI 0 ∧ ff (c - 1) + fl (c - 1) = nI b
  · rw [if_pos g]
    obtain ⟨t1, t2, t3, t4, t5⟩ := h1 (c - 1) (by omega)
    have hK : K (c - 1) = 0 ∧ a (c - 1) + n (c - 1) ≤ bn lo s := by
      rcases t5 with z | ⟨z, _⟩
      · exact z
      · rw [t1, z] at g
        exact absurd ((nI_eq (by omega) (by omega)).mp g.2.1) (by decide)
    have hab : a (c - 1) + n (c - 1) = b := by
      have := g.2.2
      rw [t2, t3, nI_add] at this
      exact (nI_eq (by omega) (by omega)).mp this
    have e0 : c = (c - 1) + 1 := by omega
    have em : s * (a (c - 1)) ≤ s * b := Nat.mul_le_mul_left s (by omega)
    have e1 : sgO s lo K a n (c - 1) + (s * b - s * a (c - 1)) = p := by
      rw [e0] at h3
      have : sgO s lo K a n (c - 1) + (sE s lo (K (c - 1)) (a (c - 1)) (n (c - 1)) - sS s (K (c - 1)) (a (c - 1))) = p := h3
      rw [hK.1] at this
      have e2 : sE s lo 0 (a (c - 1)) (n (c - 1)) = min (s * (a (c - 1) + n (c - 1))) lo := rfl
      have e3 : sS s 0 (a (c - 1)) = s * a (c - 1) := rfl
      rw [e2, e3, hab, show min (s * b) lo = s * b by omega] at this
      exact this
    have e4 : sE s lo 0 (a (c - 1)) (n (c - 1) + 1) - sS s 0 (a (c - 1)) = (s * b - s * a (c - 1)) + bl lo s b := by
      show min (s * (a (c - 1) + (n (c - 1) + 1))) lo - s * a (c - 1) = _
      rw [show a (c - 1) + (n (c - 1) + 1) = b + 1 by omega, hend]
      omega
    have hf2 : ∀ i, i < sE s lo 0 (a (c - 1)) (n (c - 1) + 1) - sS s 0 (a (c - 1)) → (va_cpy fo fm (s * b) p (bl lo s b)) (sgO s lo K a n (c - 1) + i) = T (sS s 0 (a (c - 1)) + i) := by
      intro i hi
      rw [e4] at hi
      show va_cpy fo fm (s * b) p (bl lo s b) (sgO s lo K a n (c - 1) + i) = T (s * a (c - 1) + i)
      by_cases ei : i < s * b - s * a (c - 1)
      · rw [hco _ (by omega)]
        have := h2 (c - 1) (by omega) i
        rw [hK.1] at this
        refine this ?_
        show i < min (s * (a (c - 1) + n (c - 1))) lo - s * a (c - 1)
        rw [hab, show min (s * b) lo = s * b by omega]
        exact ei
      · have := hcp (i - (s * b - s * a (c - 1))) (by omega)
        rw [show p + (i - (s * b - s * a (c - 1))) = sgO s lo K a n (c - 1) + i by omega] at this
        rw [this, ← hT _ (by omega)]
        congr 1
        omega
    obtain ⟨x1, x2, x3⟩ := TI_ext (T := T) (fm := fm) (fm' := va_cpy fo fm (s * b) p (bl lo s b)) (fk := fk) (ff := ff) (fl := fl) (fk' := fk) (ff' := ff) (fl' := upd fl (c - 1) (fl (c - 1) + nI 1)) (K := K) (a := a) (n := n) (s := s) (lo := lo) (ln := ln) (m := c - 1) (kk := 0) (aa := a (c - 1)) (nn := n (c - 1) + 1)
      (fun j hj => h1 j (by omega)) (fun j hj => h2 j (by omega)) (fun j hj => ⟨rfl, rfl, pk_un (by omega)⟩) ⟨by rw [t1, hK.1], t2, by rw [pk_us, t3, nI_add]⟩ (by omega) (Or.inl ⟨rfl, by omega⟩)
      (fun x hx => hco x (by omega)) hf2
    rw [← e0] at x1 x2 x3
    rw [e4] at x3
    refine ⟨updN K (c - 1) 0, updN a (c - 1) (a (c - 1)), updN n (c - 1) (n (c - 1) + 1), x1, x2, by show _ = p + bl lo s b; rw [x3]; omega, by show c ≤ p + bl lo s b; omega, hp, fun hz => ?_, fun _ _ => ?_, fun _ hz => ?_⟩
    · change c = 0 at hz
      omega
    · show some b = some (updN a (c - 1) (a (c - 1)) (c - 1) + updN n (c - 1) (n (c - 1) + 1) (c - 1) - 1)
      rw [updN_s, updN_s]
      congr 1
      omega
    · change updN K (c - 1) 0 (c - 1) = 1 at hz
      rw [updN_s] at hz
      exact absurd hz (by decide)
  · rw [if_neg g]
    have e4 : sE s lo 0 b 1 - sS s 0 b = bl lo s b := by
      show min (s * (b + 1)) lo - s * b = _
      rw [hend]
      omega
    have hf2 : ∀ i, i < sE s lo 0 (b) (1) - sS s 0 (b) → (va_cpy fo fm (s * b) p (bl lo s b)) (sgO s lo K a n (c) + i) = T (sS s 0 (b) + i) := by
      intro i hi
      rw [e4] at hi
      show va_cpy fo fm (s * b) p (bl lo s b) (sgO s lo K a n c + i) = T (s * b + i)
      rw [h3, hcp i hi, hT _ (by omega)]
    obtain ⟨x1, x2, x3⟩ := TI_ext (T := T) (fm := fm) (fm' := va_cpy fo fm (s * b) p (bl lo s b)) (fk := fk) (ff := ff) (fl := fl) (fk' := upd fk c (nI 0)) (ff' := upd ff c (nI b)) (fl' := upd fl c (nI 1)) (K := K) (a := a) (n := n) (s := s) (lo := lo) (ln := ln) (m := c) (kk := 0) (aa := b) (nn := 1)
      h1 h2 (fun j hj => ⟨pk_un (by omega), pk_un (by omega), pk_un (by omega)⟩) ⟨pk_us, pk_us, pk_us⟩ (by omega) (Or.inl ⟨rfl, by omega⟩)
      (fun x hx => hco x (by omega)) hf2
    rw [e4, h3] at x3
    refine ⟨updN K c 0, updN a c b, updN n c 1, x1, x2, x3, by show c + 1 ≤ p + bl lo s b; omega, hp, fun hz => ?_, fun _ _ => ?_, fun _ hz => ?_⟩
    · change c + 1 = 0 at hz
      omega
    · show some b = some (updN a c b (c + 1 - 1) + updN n c 1 (c + 1 - 1) - 1)
      rw [Nat.add_sub_cancel, updN_s, updN_s, Nat.add_sub_cancel]
    · change updN K c 0 (c + 1 - 1) = 1 at hz
      rw [Nat.add_sub_cancel, updN_s] at hz
      exact absurd hz (by decide)
theorem TI_step {T fo fn : Nat → Int32} {lo ln s : Nat} {mk : Int64} (hT1 : ∀ i, i < lo → T i = fo i) (hT2 : ∀ i, i < ln → T (1200 + i) = fn i) (h0 : 4 ≤ s) (hlo : lo ≤ 1200) (hl : ln ≤ 1200) {t : dl_T} (hp : t.1 < ln) (h : ∃ K a n, TI T lo ln s t K a n) : ∃ K a n, TI T lo ln s (dl_step fo fn lo ln s mk t) K a n := by
  obtain ⟨K, a, n, h⟩ := h
  obtain ⟨p, bf, ⟨fk, ff, fl, c⟩, fm⟩ := t
  rcases hpk : pick (fb fo fn lo ln s mk p) (bn lo s) bf with _ | b
  · rw [dl_none hpk]
    exact TI_new hT2 hl hp h
  · rw [dl_some hpk]
    obtain ⟨hbn, hfb⟩ := pick_lt hpk
    exact TI_cop hT1 h0 hlo hl hbn (of_decide_eq_true hfb).1 h
theorem TI_all {T fo fn : Nat → Int32} {lo ln s : Nat} {mk : Int64} (hT1 : ∀ i, i < lo → T i = fo i) (hT2 : ∀ i, i < ln → T (1200 + i) = fn i) (h0 : 4 ≤ s) (hlo : lo ≤ 1200) (hl : ln ≤ 1200) : ∀ (k : Nat) (t : dl_T), (∃ K a n, TI T lo ln s t K a n) → ∃ K a n, TI T lo ln s (dl fo fn lo ln s mk k t) K a n
  | 0, _, h => h
  | k + 1, t, h => by
    by_cases e : t.1 < ln
    · rw [show dl fo fn lo ln s mk (k + 1) t = dl fo fn lo ln s mk k (dl_step fo fn lo ln s mk t) from if_pos e]
      exact TI_all hT1 hT2 h0 hlo hl k _ (TI_step hT1 hT2 h0 hlo hl e h)
    · rw [show dl fo fn lo ln s mk (k + 1) t = t from if_neg e]
      exact h
