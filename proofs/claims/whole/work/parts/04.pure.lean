/-! ===== the sums of the document, as numbers of 32 and 64 bits ===== -/
/-- the sum of n octets from p on -/
def su_A (f : Nat → Int32) (p : Nat) : Nat → Int32
  | 0 => 0
  | n + 1 => su_A f p n + f (p + n)
/-- .. each as often as octets stand from it to the end -/
def su_B (f : Nat → Int32) (p : Nat) : Nat → Int32
  | 0 => 0
  | n + 1 => su_B f p n + su_A f p (n + 1)
/-- WEAK out of both -/
def su_J (a b : Int32) : Int32 := (a &&& 65535) + 65536 * (b &&& 65535)
def su_W (f : Nat → Int32) (p n : Nat) : Int32 := su_J (su_A f p n) (su_B f p n)
/-- STRONG -/
def su_S (f : Nat → Int32) (p : Nat) : Nat → Int64
  | 0 => -3750763034362895579
  | n + 1 => (su_S f p n ^^^ (f (p + n)).toInt64) * 1099511628211
/-- the sum with weights that count down from n, over the first k -/
def su_C (f : Nat → Int32) (p n : Nat) : Nat → Int32
  | 0 => 0
  | k + 1 => su_C f p n k + nI (n - k) * f (p + k)
theorem su_C_B (f : Nat → Int32) (p n : Nat) : ∀ k, k ≤ n → su_C f p n k = su_B f p k + nI (n - k) * su_A f p k
  | 0, _ => by
    show (0 : Int32) = 0 + nI (n - 0) * 0
    grind
  | k + 1, h => by
    have ih := su_C_B f p n k (by omega)
    have e1 : nI (n - k) = nI (n - (k + 1)) + 1 := by rw [show n - k = (n - (k + 1)) + 1 by omega, nI_succ]
    show su_C f p n k + nI (n - k) * f (p + k) = su_B f p k + su_A f p (k + 1) + nI (n - (k + 1)) * su_A f p (k + 1)
    rw [ih, e1]
    show _ = su_B f p k + (su_A f p k + f (p + k)) + nI (n - (k + 1)) * (su_A f p k + f (p + k))
    grind
theorem su_C_n (f : Nat → Int32) (p n : Nat) : su_C f p n n = su_B f p n := by
  rw [su_C_B f p n n (Nat.le_refl n), Nat.sub_self]
  show su_B f p n + nI 0 * su_A f p n = su_B f p n
  rw [nI_0]
  grind
/-- a window that goes on by one -/
theorem su_A_roll (f : Nat → Int32) (p : Nat) : ∀ n, su_A f (p + 1) n = su_A f p n + (f (p + n) - f p)
  | 0 => by
    show (0 : Int32) = 0 + (f (p + 0) - f p)
    rw [Nat.add_zero]
    grind
  | n + 1 => by
    show su_A f (p + 1) n + f (p + 1 + n) = su_A f p n + f (p + n) + (f (p + (n + 1)) - f p)
    rw [su_A_roll f p n, show p + 1 + n = p + (n + 1) by omega]
    grind
theorem su_B_roll (f : Nat → Int32) (p : Nat) : ∀ n, su_B f (p + 1) n = su_B f p n + (su_A f (p + 1) n - nI n * f p)
  | 0 => by
    show (0 : Int32) = 0 + (0 - nI 0 * f p)
    rw [nI_0]
    grind
  | n + 1 => by
    show su_B f (p + 1) n + su_A f (p + 1) (n + 1) = su_B f p n + su_A f p (n + 1) + (su_A f (p + 1) (n + 1) - nI (n + 1) * f p)
    have h1 := su_A_roll f p n
    have h2 := su_A_roll f p (n + 1)
    have h3 : su_A f p (n + 1) = su_A f p n + f (p + n) := rfl
    rw [su_B_roll f p n, nI_succ]
    grind
theorem su_A_congr {f g : Nat → Int32} (p : Nat) : ∀ n, (∀ j, j < n → f (p + j) = g (p + j)) → su_A f p n = su_A g p n
  | 0, _ => rfl
  | n + 1, h => by
    show su_A f p n + f (p + n) = su_A g p n + g (p + n)
    rw [su_A_congr p n (fun j hj => h j (by omega)), h n (by omega)]
theorem su_B_congr {f g : Nat → Int32} (p : Nat) : ∀ n, (∀ j, j < n → f (p + j) = g (p + j)) → su_B f p n = su_B g p n
  | 0, _ => rfl
  | n + 1, h => by
    show su_B f p n + su_A f p (n + 1) = su_B g p n + su_A g p (n + 1)
    rw [su_B_congr p n (fun j hj => h j (by omega)), su_A_congr p (n + 1) h]
theorem su_S_congr {f g : Nat → Int32} (p : Nat) : ∀ n, (∀ j, j < n → f (p + j) = g (p + j)) → su_S f p n = su_S g p n
  | 0, _ => rfl
  | n + 1, h => by
    show (su_S f p n ^^^ (f (p + n)).toInt64) * 1099511628211 = (su_S g p n ^^^ (g (p + n)).toInt64) * 1099511628211
    rw [su_S_congr p n (fun j hj => h j (by omega)), h n (by omega)]

def rz (f : Nat → Int32) (n k : Nat) : Nat → Int32 := fun j => if n ≤ j ∧ j < k then 0 else f j
theorem rz_0 {f : Nat → Int32} {n : Nat} : rz f n n = f := by
  funext j
  show (if n ≤ j ∧ j < n then 0 else f j) = f j
  rw [if_neg (by omega)]
theorem rz_s {f : Nat → Int32} {n i : Nat} (h : n ≤ i) : rz f n (i + 1) = upd (rz f n i) i (nI 0) := by
  funext j
  show (if n ≤ j ∧ j < i + 1 then 0 else f j) = if j = i then nI 0 else (if n ≤ j ∧ j < i then 0 else f j)
  by_cases e : j = i
  · rw [if_pos (by omega), if_pos e, nI_0]
  · rw [if_neg e]
    by_cases e2 : n ≤ j ∧ j < i
    · rw [if_pos e2, if_pos (by omega)]
    · rw [if_neg e2, if_neg (by omega)]
theorem rz_e {f : Nat → Int32} {n k i : Nat} (h1 : n ≤ i) (h2 : k ≤ i) (h3 : i ≤ n ∨ i ≤ k) : rz f n k = rz f n i := by
  funext j
  show (if n ≤ j ∧ j < k then 0 else f j) = (if n ≤ j ∧ j < i then 0 else f j)
  by_cases e2 : n ≤ j ∧ j < k
  · rw [if_pos e2, if_pos (by omega)]
  · rw [if_neg e2, if_neg (by omega)]
def ds_oct (v : Int64) (i : Nat) : Int32 := (v.toUInt64 >>> ((nI (56 - 8 * i)).toInt64.toUInt64 &&& Int64.toUInt64 63)).toInt64.toInt32 &&& nI 255
def wr (f : Nat → Int32) (q : Nat) (v : Int64) (i : Nat) : Nat → Int32 := fun j => if q ≤ j ∧ j < q + i then ds_oct v (j - q) else f j
theorem wr_0 {f : Nat → Int32} {q : Nat} {v : Int64} : wr f q v 0 = f := by
  funext j
  show (if q ≤ j ∧ j < q + 0 then ds_oct v (j - q) else f j) = f j
  rw [if_neg (by omega)]
theorem wr_s {f : Nat → Int32} {q i : Nat} {v : Int64} : wr f q v (i + 1) = upd (wr f q v i) (q + i) (ds_oct v i) := by
  funext j
  show (if q ≤ j ∧ j < q + (i + 1) then ds_oct v (j - q) else f j) = if j = q + i then ds_oct v i else (if q ≤ j ∧ j < q + i then ds_oct v (j - q) else f j)
  by_cases e : j = q + i
  · rw [if_pos (by omega), if_pos e, show j - q = i by omega]
  · rw [if_neg e]
    by_cases e2 : q ≤ j ∧ j < q + i
    · rw [if_pos e2, if_pos (by omega)]
    · rw [if_neg e2, if_neg (by omega)]
def tk_add (fk ff fl : Nat → Int32) (c : Nat) (kd nb : Int32) : (Nat → Int32) × (Nat → Int32) × (Nat → Int32) × Nat :=
  if 0 < c ∧ fk (c - 1) = kd ∧ ff (c - 1) + fl (c - 1) = nb then (fk, ff, upd fl (c - 1) (fl (c - 1) + nI 1), c) else (upd fk c kd, upd ff c nb, upd fl c (nI 1), c + 1)
def bn (n s : Nat) : Nat := (n + s - 1) / s
def bL (n s : Nat) : Nat := if bn n s = 0 then 0 else n - (bn n s - 1) * s
def bl (n s i : Nat) : Nat := if i + 1 = bn n s then bL n s else s
theorem bn_lt {n s i : Nat} (h0 : 0 < s) (h : i < bn n s) : i * s < n := by
  have h1 : (i + 1) * s ≤ n + s - 1 := (Nat.le_div_iff_mul_le h0).mp h
  rw [Nat.add_mul, Nat.one_mul] at h1
  omega
theorem bn_up {n s : Nat} (h0 : 0 < s) : n ≤ bn n s * s := by
  have h1 : n + s - 1 < ((n + s - 1) / s + 1) * s := Nat.lt_mul_of_div_lt (Nat.lt_succ_self _) h0
  rw [Nat.add_mul, Nat.one_mul] at h1
  show n ≤ (n + s - 1) / s * s
  omega
theorem bn_pos {n s : Nat} (h0 : 0 < s) (h : 0 < n) : 0 < bn n s := by
  have := bn_up (n := n) h0
  rcases Nat.eq_zero_or_pos (bn n s) with e | e
  · rw [e, Nat.zero_mul] at this
    omega
  · exact e
theorem bn_300 {n s : Nat} (h : n ≤ 1200) (h4 : 4 ≤ s) : bn n s ≤ 300 := by
  rcases Nat.lt_or_ge 300 (bn n s) with e | e
  · have h1 := bn_lt (by omega) e
    have h2 : 300 * 4 ≤ 300 * s := Nat.mul_le_mul_left 300 h4
    omega
  · exact e
theorem bl_in {n s i : Nat} (h0 : 0 < s) (h : i < bn n s) : i * s + bl n s i ≤ n ∧ 0 < bl n s i := by
  have h1 := bn_lt h0 h
  unfold bl
  by_cases e : i + 1 = bn n s
  · rw [if_pos e, bL, if_neg (by omega), show bn n s - 1 = i by omega]
    omega
  · rw [if_neg e]
    have h2 := bn_lt (n := n) (i := i + 1) h0 (by omega)
    rw [Nat.add_mul, Nat.one_mul] at h2
    omega
theorem bL_le {n s : Nat} (h0 : 0 < s) : bL n s ≤ s := by
  unfold bL
  by_cases e : bn n s = 0
  · rw [if_pos e]
    omega
  · rw [if_neg e]
    have h1 := bn_up (n := n) h0
    have h2 : bn n s * s = (bn n s - 1) * s + s := by
      have h3 : bn n s = (bn n s - 1) + 1 := by omega
      calc bn n s * s = ((bn n s - 1) + 1) * s := by rw [← h3]
        _ = (bn n s - 1) * s + s := by rw [Nat.add_mul, Nat.one_mul]
    omega
theorem bl_last {n s i : Nat} (h : i + 1 = bn n s) : bl n s i = n - i * s := by
  unfold bl
  rw [if_pos h, bL, if_neg (by omega), show bn n s - 1 = i by omega]
/-- a window: its sums belong to its place, where it is inside -/
def dw_I (f : Nat → Int32) (n z : Nat) (ins pl a b : Int32) : Prop := ins = 0 ∨ (ins = 1 ∧ ∃ q, pl = nI q ∧ q + z ≤ n ∧ a = su_A f q z ∧ b = su_B f q z)
def dw_S (f : Nat → Int32) (z p : Nat) (ks : Int32) (st : Int64) : Prop := ks = 0 ∨ (ks = 1 ∧ st = su_S f p z)
theorem ds_sublt {n z p : Nat} (hn : n ≤ 1200) (hz : z ≤ 1200) (hp : p < 2 ^ 31) : nI n - nI z < nI p ↔ n < p + z := by
  rw [Int32.lt_iff_toInt_lt, pk_sub_toInt (by omega) (by omega), nI_toInt (by omega)]
  omega
theorem cut_s {gw : Nat → Int32} {gs : Nat → Int64} {f : Nat → Int32} {n k i : Nat} (hv : ∀ j, j < i → gw j = su_W f (j * k) (bl n k j) ∧ gs j = su_S f (j * k) (bl n k j)) :
    ∀ j, j < i + 1 → upd gw i (su_W f (i * k) (bl n k i)) j = su_W f (j * k) (bl n k j) ∧ vp_updL gs i (su_S f (i * k) (bl n k i)) j = su_S f (j * k) (bl n k j) := by
  intro j hj
  by_cases e : j = i
  · subst e
    exact ⟨pk_us, pk_uLs⟩
  · rw [pk_un e, pk_uLn e]
    exact hv j (by omega)
theorem ds_nm1 {b : Nat} (h : b < 2 ^ 31) : ¬ nI b = -1 := fun e => nI_pos h (by rw [e]; decide)
def dw_P (f : Nat → Int32) (n z p : Nat) (ins wk : Int32) : Prop := (p + z ≤ n ∧ ins = 1 ∧ wk = su_W f p z) ∨ (n < p + z ∧ ins = 0)
abbrev ft (fo fn : Nat → Int32) (ln : Nat) (mk : Int64) (q p k : Nat) : Prop := p + k ≤ ln ∧ su_W fn p k = su_W fo q k ∧ (su_S fn p k ^^^ su_S fo q k) &&& mk = 0
theorem dw_P.sh {f : Nat → Int32} {n z p : Nat} {ins wk : Int32} (h : dw_P f n z p ins wk) (hn : n ≤ 1200) : ins = 0 ∨ (ins = 1 ∧ p + z ≤ 1200) := by
  rcases h with h | h
  · exact Or.inr ⟨h.2.1, by omega⟩
  · exact Or.inl h.2
theorem dw_P.ft {fo f : Nat → Int32} {n z p q : Nat} {ins wk wv : Int32} {sv mk : Int64} (h : dw_P f n z p ins wk) (h1 : wv = su_W fo q z) (h2 : sv = su_S fo q z) : (ins = 1 ∧ wk = wv ∧ (su_S f p z ^^^ sv) &&& mk = 0) ↔ ft fo f n mk q p z := by
  subst h1 h2
  rcases h with ⟨h3, h4, h5⟩ | ⟨h3, h4⟩
  · subst h4 h5
    exact ⟨fun k => ⟨h3, k.2.1, k.2.2⟩, fun k => ⟨rfl, k.2.1, k.2.2⟩⟩
  · subst h4
    exact ⟨fun k => absurd k.1 (by decide), fun k => absurd k.1 (by omega)⟩
def fb (fo fn : Nat → Int32) (lo ln s : Nat) (mk : Int64) (p b : Nat) : Bool := decide (ft fo fn ln mk (b * s) p (bl lo s b))
def oI : Option Nat → Int32
  | none => -1
  | some b => nI b
def fsN (P : Nat → Bool) : Nat → Nat → Option Nat
  | _, 0 => none
  | i, k + 1 => if P i = true then some i else fsN P (i + 1) k
def pick (P : Nat → Bool) (n : Nat) : Option Nat → Option Nat
  | none => fsN P 0 n
  | some b => if b + 1 < n ∧ P (b + 1) = true then some (b + 1) else fsN P 0 n
theorem fsN_yes {P : Nat → Bool} {i n : Nat} (h : i < n) (hp : P i = true) : fsN P i (n - i) = some i := by
  rw [show n - i = (n - (i + 1)) + 1 by omega]
  exact if_pos hp
theorem fsN_no {P : Nat → Bool} {i n : Nat} (h : i < n) (hp : ¬ P i = true) : fsN P i (n - i) = fsN P (i + 1) (n - (i + 1)) := by
  rw [show n - i = (n - (i + 1)) + 1 by omega]
  exact if_neg hp
theorem fsN_end {P : Nat → Bool} {i n : Nat} (h : n ≤ i) : fsN P i (n - i) = none := by
  rw [show n - i = 0 by omega]
  rfl
theorem fsN_lt {P : Nat → Bool} : ∀ (k i b : Nat), fsN P i k = some b → b < i + k ∧ P b = true
  | 0, _, _, h => by cases h
  | k + 1, i, b, h => by
    by_cases e : P i = true
    · rw [show fsN P i (k + 1) = some i from if_pos e] at h
      cases h
      exact ⟨by omega, e⟩
    · rw [show fsN P i (k + 1) = fsN P (i + 1) k from if_neg e] at h
      have := fsN_lt k (i + 1) b h
      exact ⟨by omega, this.2⟩
theorem pick_lt {P : Nat → Bool} {n b : Nat} {bf : Option Nat} (h : pick P n bf = some b) : b < n ∧ P b = true := by
  have key : fsN P 0 n = some b → b < n ∧ P b = true := fun h => by
    have := fsN_lt n 0 b h
    exact ⟨by omega, this.2⟩
  rcases bf with _ | b0
  · exact key h
  · by_cases e : b0 + 1 < n ∧ P (b0 + 1) = true
    · rw [show pick P n (some b0) = some (b0 + 1) from if_pos e] at h
      cases h
      exact e
    · rw [show pick P n (some b0) = fsN P 0 n from if_neg e] at h
      exact key h
def ds_mask (b : Nat) : Int64 := if b = 64 then -1 else 1 <<< ((nI b).toInt64 &&& 63) - 1
theorem fb_no {P : Prop} {r : Int32} (h : (r = 1 ∧ P) ∨ (r = 0 ∧ ¬ P)) : narrow .boolean (.int r) = .int r := by
  rcases h with ⟨rfl, _⟩ | ⟨rfl, _⟩ <;> rfl
theorem ds_cv {r : Int32} {X Y : Prop} (h : X ↔ Y) (hp : (r = 1 ∧ X) ∨ (r = 0 ∧ ¬ X)) : (r = 1 ∧ Y) ∨ (r = 0 ∧ ¬ Y) := hp.imp (fun z => ⟨z.1, h.mp z.2⟩) (fun z => ⟨z.1, fun y => z.2 (h.mpr y)⟩)
theorem mv_P {f : Nat → Int32} {n z q : Nat} {u : Int32 × Int32 × Int32 × Int32} (h : (q + z ≤ n ∧ u.1 = 1 ∧ u.2.1 = su_A f q z ∧ u.2.2.1 = su_B f q z ∧ u.2.2.2 = su_W f q z) ∨ (n < q + z ∧ u.1 = 0)) : dw_P f n z q u.1 u.2.2.2 :=
  h.imp (fun k => ⟨k.1, k.2.1, k.2.2.2.2⟩) id
theorem mv_I {f : Nat → Int32} {n z q : Nat} {u : Int32 × Int32 × Int32 × Int32} (h : (q + z ≤ n ∧ u.1 = 1 ∧ u.2.1 = su_A f q z ∧ u.2.2.1 = su_B f q z ∧ u.2.2.2 = su_W f q z) ∨ (n < q + z ∧ u.1 = 0)) : dw_I f n z u.1 (nI q) u.2.1 u.2.2.1 :=
  h.elim (fun k => Or.inr ⟨k.2.1, q, rfl, k.1, k.2.2.1, k.2.2.2.1⟩) (fun k => Or.inl k.2)
abbrev dl_T : Type := Nat × Option Nat × ((Nat → Int32) × (Nat → Int32) × (Nat → Int32) × Nat) × (Nat → Int32)
def dl_step (fo fn : Nat → Int32) (lo ln s : Nat) (mk : Int64) (t : dl_T) : dl_T :=
  match pick (fb fo fn lo ln s mk t.1) (bn lo s) t.2.1 with
  | none => (t.1 + 1, none, tk_add t.2.2.1.1 t.2.2.1.2.1 t.2.2.1.2.2.1 t.2.2.1.2.2.2 (nI 1) (nI t.1), va_cpy fn t.2.2.2 t.1 t.1 1)
  | some b => (t.1 + bl lo s b, some b, tk_add t.2.2.1.1 t.2.2.1.2.1 t.2.2.1.2.2.1 t.2.2.1.2.2.2 (nI 0) (nI b), va_cpy fo t.2.2.2 (b * s) t.1 (bl lo s b))
def dl (fo fn : Nat → Int32) (lo ln s : Nat) (mk : Int64) : Nat → dl_T → dl_T
  | 0, t => t
  | k + 1, t => if t.1 < ln then dl fo fn lo ln s mk k (dl_step fo fn lo ln s mk t) else t
theorem dl_end {fo fn : Nat → Int32} {lo ln s : Nat} {mk : Int64} {t : dl_T} (h : ln ≤ t.1) : ∀ k, dl fo fn lo ln s mk k t = t
  | 0 => rfl
  | _ + 1 => if_neg (by omega)
theorem dl_go {fo fn : Nat → Int32} {lo ln s : Nat} {mk : Int64} {t : dl_T} {i : Nat} (h : t.1 < ln) (hi : i < 1200) : dl fo fn lo ln s mk (1200 - i) t = dl fo fn lo ln s mk (1200 - (i + 1)) (dl_step fo fn lo ln s mk t) := by
  rw [show 1200 - i = (1200 - (i + 1)) + 1 by omega]
  exact if_pos h
theorem dl_none {fo fn : Nat → Int32} {lo ln s : Nat} {mk : Int64} {p c : Nat} {bf : Option Nat} {fk ff fl fm : Nat → Int32} (h : pick (fb fo fn lo ln s mk p) (bn lo s) bf = none) :
    dl_step fo fn lo ln s mk (p, bf, (fk, ff, fl, c), fm) = (p + 1, none, tk_add fk ff fl c (nI 1) (nI p), va_cpy fn fm p p 1) := by
  unfold dl_step
  rw [show pick (fb fo fn lo ln s mk ((p, bf, (fk, ff, fl, c), fm) : dl_T).1) (bn lo s) ((p, bf, (fk, ff, fl, c), fm) : dl_T).2.1 = none from h]
theorem dl_some {fo fn : Nat → Int32} {lo ln s : Nat} {mk : Int64} {p c b : Nat} {bf : Option Nat} {fk ff fl fm : Nat → Int32} (h : pick (fb fo fn lo ln s mk p) (bn lo s) bf = some b) :
    dl_step fo fn lo ln s mk (p, bf, (fk, ff, fl, c), fm) = (p + bl lo s b, some b, tk_add fk ff fl c (nI 0) (nI b), va_cpy fo fm (b * s) p (bl lo s b)) := by
  unfold dl_step
  rw [show pick (fb fo fn lo ln s mk ((p, bf, (fk, ff, fl, c), fm) : dl_T).1) (bn lo s) ((p, bf, (fk, ff, fl, c), fm) : dl_T).2.1 = some b from h]
theorem tk_add_c {fk ff fl : Nat → Int32} {c : Nat} {kd nb : Int32} : (tk_add fk ff fl c kd nb).2.2.2 ≤ c + 1 := by
  unfold tk_add
  by_cases h : 0 < c ∧ fk (c - 1) = kd ∧ ff (c - 1) + fl (c - 1) = nb
  · rw [if_pos h]
    exact Nat.le_succ c
  · rw [if_neg h]
    exact Nat.le_refl _
theorem bl_min {n s i : Nat} (h0 : 0 < s) (h : i < bn n s) : (if n - i * s < s then n - i * s else s) = bl n s i := by
  have h1 := bn_lt h0 h
  by_cases e : i + 1 = bn n s
  · rw [bl_last e]
    have h2 := bL_le (n := n) h0
    have h3 : bL n s = n - i * s := by
      have := bl_last e
      rw [← this]
      exact (if_pos e).symm
    by_cases e2 : n - i * s < s
    · rw [if_pos e2]
    · rw [if_neg e2]
      omega
  · have h2 := bn_lt (n := n) (i := i + 1) h0 (by omega)
    rw [Nat.add_mul, Nat.one_mul] at h2
    rw [if_neg (by omega), bl, if_neg e]
theorem bl_minI {n s i : Nat} (h0 : 0 < s) (hs : s ≤ 256) (hn : n ≤ 1200) (h : i < bn n s) : (if nI (n - i * s) < nI s then nI (n - i * s) else nI s) = nI (bl n s i) := by
  rw [← bl_min h0 h]
  by_cases e : n - i * s < s
  · rw [if_pos e, if_pos ((nI_ltI (by omega) (by omega)).mpr e)]
  · rw [if_neg e, if_neg (fun z => e ((nI_ltI (by omega) (by omega)).mp z))]
def snt (fk fl : Nat → Int32) : Nat → Int32
  | 0 => 0
  | k + 1 => snt fk fl k + (if fk k = 0 then nI 5 else nI 3 + fl k)
