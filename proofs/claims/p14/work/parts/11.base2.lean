/-! numbers of 32 bits by their integers; rows whose entries lie between two integers -/
theorem v_rng (x : Int32) : -2147483648 ≤ x.toInt ∧ x.toInt < 2147483648 := by
  have h1 := Int32.toInt_lt x
  have h2 := Int32.le_toInt x
  omega
theorem v_bmod {z : Int} (h1 : -2147483648 ≤ z) (h2 : z < 2147483648) : z.bmod (2 ^ 32) = z := Int.bmod_eq_of_le (by omega) (by omega)
theorem v_add {a b x : Int32} (h : x = a + b) (h1 : -2147483648 ≤ a.toInt + b.toInt) (h2 : a.toInt + b.toInt < 2147483648) : x.toInt = a.toInt + b.toInt := by
  rw [h, Int32.toInt_add]; exact v_bmod h1 h2
theorem v_sub {a b x : Int32} (h : x = a - b) (h1 : -2147483648 ≤ a.toInt - b.toInt) (h2 : a.toInt - b.toInt < 2147483648) : x.toInt = a.toInt - b.toInt := by
  rw [h, Int32.toInt_sub]; exact v_bmod h1 h2
theorem v_mul {a b x : Int32} (h : x = a * b) (h1 : -2147483648 ≤ a.toInt * b.toInt) (h2 : a.toInt * b.toInt < 2147483648) : x.toInt = a.toInt * b.toInt := by
  rw [h, Int32.toInt_mul]; exact v_bmod h1 h2
theorem v_div {a b x : Int32} (h : x = a / b) (h1 : 0 ≤ a.toInt) (h2 : 0 < b.toInt) : x.toInt = a.toInt / b.toInt := by
  rw [h, Int32.toInt_div_of_ne_right _ _ (fun e => by rw [e] at h2; exact absurd h2 (by decide))]
  exact Int.tdiv_eq_ediv_of_nonneg h1
theorem v_rem {a b x : Int32} (h : x = a - a / b * b) (h1 : 0 ≤ a.toInt) (h2 : 0 < b.toInt) : x.toInt = a.toInt % b.toInt := by
  have hq := v_div (x := a / b) rfl h1 h2
  have ha := v_rng a
  have e1 := Int.mul_ediv_add_emod a.toInt b.toInt
  have e2 : 0 ≤ a.toInt % b.toInt := Int.emod_nonneg _ (by omega)
  have e3 : a.toInt / b.toInt * b.toInt = b.toInt * (a.toInt / b.toInt) := Int.mul_comm _ _
  have e4 : 0 ≤ b.toInt * (a.toInt / b.toInt) := Int.mul_nonneg (by omega) (Int.ediv_nonneg h1 (by omega))
  have hm := v_mul (x := a / b * b) rfl (by rw [hq, e3]; omega) (by rw [hq, e3]; omega)
  rw [hq] at hm
  have hs := v_sub (x := a - a / b * b) rfl (by rw [hm, e3]; omega) (by rw [hm, e3]; omega)
  rw [h, hs, hm, e3]; omega
theorem v_and {a x m : Int32} (k : Nat) (h : x = a &&& m) (hm : m.toBitVec.toNat = 2 ^ k - 1) (hk : k ≤ 30) : 0 ≤ x.toInt ∧ x.toInt < ((2 ^ k : Nat) : Int) := by
  rw [h]; exact vp_in_iff.mp (pk_andIn a k hm hk)
theorem v_ushr {a s x : Int32} (k : Nat) (h : x = (a.toUInt32 >>> (s.toUInt32 &&& Int32.toUInt32 31)).toInt32) (hs : ((s.toUInt32 &&& Int32.toUInt32 31).toBitVec % 32).toNat = k) (hk : 1 ≤ k) (hk2 : k ≤ 31) : 0 ≤ x.toInt ∧ x.toInt < ((2 ^ (32 - k) : Nat) : Int) := by
  have e1 := pk_ushr a s k hs
  rw [← h] at e1
  have hb := a.toBitVec.isLt
  have h2 : a.toBitVec.toNat / 2 ^ k < 2 ^ (32 - k) := by
    apply Nat.div_lt_of_lt_mul
    rw [← Nat.pow_add]
    have : k + (32 - k) = 32 := by omega
    rw [this]; exact hb
  have h3 : 2 ^ (32 - k) ≤ 2 ^ 31 := Nat.pow_le_pow_right (by decide) (by omega)
  have ex : x = nI (a.toBitVec.toNat / 2 ^ k) := by
    apply Int32.toBitVec_inj.mp
    apply BitVec.eq_of_toNat_eq
    rw [e1, pk_tn (by omega)]
  rw [ex, nI_toInt (by omega)]
  exact ⟨Int.natCast_nonneg _, by exact_mod_cast h2⟩
theorem v_shr {a s x : Int32} (k : Nat) (h : x = a >>> s) (hs : (s.toBitVec.smod 32).toNat = k) : x.toInt = a.toInt / ((2 ^ k : Nat) : Int) := by
  rw [h, pk_shr a s k hs, Int.shiftRight_eq_div_pow]
theorem v_lt {a b : Int32} (h : a < b) : a.toInt < b.toInt := Int32.lt_iff_toInt_lt.mp h
theorem v_le {a b : Int32} (h : a ≤ b) : a.toInt ≤ b.toInt := Int32.le_iff_toInt_le.mp h
theorem v_nlt {a b : Int32} (h : ¬ a < b) : b.toInt ≤ a.toInt := Int32.le_iff_toInt_le.mp (Int32.not_lt.mp h)
theorem v_nle {a b : Int32} (h : ¬ a ≤ b) : b.toInt < a.toInt := Int32.lt_iff_toInt_lt.mp (Int32.not_le.mp h)
theorem v_eq {a b : Int32} (h : a = b) : a.toInt = b.toInt := by rw [h]
theorem v_ne {a b : Int32} (h : ¬ a = b) : ¬ a.toInt = b.toInt := fun e => h (Int32.toInt_inj.mp e)
theorem v_inj {a b : Int32} (h : a.toInt = b.toInt) : a = b := Int32.toInt_inj.mp h
theorem v_in {x : Int32} {n : Nat} (h : 0 ≤ x.toInt ∧ x.toInt < n) : vp_in x n := vp_in_iff.mpr h
theorem v_clamp {x : Int32} (h : 0 ≤ x.toInt) : (x.toNatClampNeg : Int) = x.toInt := by
  show ((x.toInt.toNat : Nat) : Int) = x.toInt
  omega
theorem v_nat {N : Nat} (h : N < 2 ^ 31) : (Int32.ofNat N).toInt = (N : Int) := Int32.toInt_ofNat_of_lt h
theorem v_bool {v : Int32} (h : 0 ≤ v.toInt ∧ v.toInt ≤ 1) : narrow .boolean (.int v) = .int v := by
  have h2 : v = 0 ∨ v = 1 := by
    rcases (show v.toInt = 0 ∨ v.toInt = 1 by omega) with z | z
    · exact Or.inl (Int32.toInt_inj.mp z)
    · exact Or.inr (Int32.toInt_inj.mp z)
  rcases h2 with rfl | rfl <;> rfl
/-- every entry lies between lo and hi -/
def rg (lo hi : Int) (f : Nat → Int32) : Prop := ∀ j, lo ≤ (f j).toInt ∧ (f j).toInt ≤ hi
theorem rg_at {lo hi : Int} {f : Nat → Int32} {x : Int32} {j : Nat} (h : rg lo hi f) (e : x = f j) : lo ≤ x.toInt ∧ x.toInt ≤ hi := by rw [e]; exact h j
theorem rg_upd {lo hi : Int} {f g : Nat → Int32} {k : Nat} {v : Int32} (e : g = upd f k v) (h : rg lo hi f) (hv : lo ≤ v.toInt ∧ v.toInt ≤ hi) : rg lo hi g := by
  intro j
  rw [e]
  by_cases z : j = k
  · rw [z, pk_us]; exact hv
  · rw [pk_un z]; exact h j
theorem rg_cpy {lo hi : Int} {f g q : Nat → Int32} {sp dp n : Nat} (e : q = va_cpy f g sp dp n) (hf : rg lo hi f) (hg : rg lo hi g) : rg lo hi q := by
  intro j
  rw [e]
  unfold va_cpy
  split
  · exact hf _
  · exact hg _
theorem rg_mono {lo hi lo2 hi2 : Int} {f : Nat → Int32} (h : rg lo hi f) (h1 : lo2 ≤ lo) (h2 : hi ≤ hi2) : rg lo2 hi2 f := fun j => by
  have := h j
  omega
theorem rg_c {lo hi : Int} {v : Int32} (h : lo ≤ v.toInt ∧ v.toInt ≤ hi) : rg lo hi (fun _ => v) := fun _ => h
theorem v_nneg {x : Int32} (h : 0 ≤ x.toInt) : ¬ x < 0 := fun z => by
  have := v_lt z
  have e : (0 : Int32).toInt = 0 := rfl
  omega
theorem v_cp {sp n : Int32} {N : Nat} (h1 : 0 ≤ sp.toInt) (h2 : 0 ≤ n.toInt) (h : sp.toInt + n.toInt ≤ N) : sp.toNatClampNeg + n.toNatClampNeg ≤ N := by
  have a := v_clamp h1
  have b := v_clamp h2
  omega
theorem v_max {a b x : Int32} (h : x = if a < b then b else a) : a.toInt ≤ x.toInt ∧ b.toInt ≤ x.toInt ∧ (x.toInt = a.toInt ∨ x.toInt = b.toInt) := by
  by_cases c : a < b
  · rw [if_pos c] at h
    have := v_lt c
    subst h
    omega
  · rw [if_neg c] at h
    have := v_nlt c
    subst h
    omega
theorem v_min {a b x : Int32} (h : x = if b < a then b else a) : x.toInt ≤ a.toInt ∧ x.toInt ≤ b.toInt ∧ (x.toInt = a.toInt ∨ x.toInt = b.toInt) := by
  by_cases c : b < a
  · rw [if_pos c] at h
    have := v_lt c
    subst h
    omega
  · rw [if_neg c] at h
    have := v_nlt c
    subst h
    omega
theorem v_i2s {a x : Int32} (h : x = a.toInt16.toInt32) (hr : -32768 ≤ a.toInt ∧ a.toInt ≤ 32767) : x.toInt = a.toInt := by
  rw [h, Int16.toInt_toInt32, Int32.toInt_toInt16]
  exact Int.bmod_eq_of_le (by omega) (by omega)
theorem v_nars {v : Int32} {lo hi : Int} (h : lo ≤ v.toInt ∧ v.toInt ≤ hi) (h2 : -32768 ≤ v.toInt ∧ v.toInt ≤ 32767) : lo ≤ (vp_nar .short v).toInt ∧ (vp_nar .short v).toInt ≤ hi := by
  have e : (vp_nar .short v).toInt = v.toInt := v_i2s (x := vp_nar .short v) rfl h2
  rw [e]; exact h
theorem v_remr {a b x : Int32} (h : x = a - a / b * b) (h1 : 0 ≤ a.toInt) (h2 : 1 ≤ b.toInt) : 0 ≤ x.toInt ∧ x.toInt < b.toInt := by
  rw [v_rem h h1 (by omega)]
  exact ⟨Int.emod_nonneg _ (by omega), Int.emod_lt_of_pos _ (by omega)⟩
theorem v_divr {a b x : Int32} (h : x = a / b) (h1 : 0 ≤ a.toInt) (h2 : 1 ≤ b.toInt) : 0 ≤ x.toInt ∧ x.toInt ≤ a.toInt := by
  rw [v_div h h1 (by omega)]
  exact ⟨Int.ediv_nonneg h1 (by omega), Int.ediv_le_self _ h1⟩
theorem v_01 {v : Int32} (h : 0 ≤ v.toInt ∧ v.toInt ≤ 1) : v = 0 ∨ v = 1 := by
  rcases (show v.toInt = 0 ∨ v.toInt = 1 by omega) with z | z
  · exact Or.inl (Int32.toInt_inj.mp z)
  · exact Or.inr (Int32.toInt_inj.mp z)
theorem v_fitb {v : Int32} (h : 0 ≤ v.toInt ∧ v.toInt ≤ 1) : fits .boolean (.int v) = true := by
  rcases v_01 h with rfl | rfl <;> rfl
/-- what add, get, cut of a row with its length do -/
def F_add (cap : Nat) (l l' r : Int32) (f f' : Nat → Int32) (v : Int32) : Prop := (l.toInt < cap ∧ l'.toInt = l.toInt + 1 ∧ r = 1 ∧ f' = upd f l.toNatClampNeg v) ∨ (cap ≤ l.toInt ∧ l' = l ∧ r = 0 ∧ f' = f)
def F_get (l i r : Int32) (f : Nat → Int32) : Prop := (0 ≤ i.toInt ∧ i.toInt < l.toInt ∧ r = f i.toNatClampNeg) ∨ ((i.toInt < 0 ∨ l.toInt ≤ i.toInt) ∧ r = -1)
def F_cut (l l' n : Int32) : Prop := (0 ≤ n.toInt ∧ n.toInt < l.toInt ∧ l' = n) ∨ ((n.toInt < 0 ∨ l.toInt ≤ n.toInt) ∧ l' = l)
def F_addAll (cap : Nat) (l l' lo r : Int32) (f f' g : Nat → Int32) : Prop := (l.toInt + lo.toInt ≤ cap ∧ l'.toInt = l.toInt + lo.toInt ∧ r = 1 ∧ f' = va_cpy g f 0 l.toNatClampNeg lo.toNatClampNeg) ∨ (cap < l.toInt + lo.toInt ∧ l' = l ∧ r = 0 ∧ f' = f)
theorem v_nz {y : Int32} (h : ¬ y.toInt = 0) : ¬ y = 0 := fun e => h (by rw [e]; rfl)
def F_fill (n : Nat) (f' : Nat → Int32) (v : Int32) : Prop := ∀ j : Nat, j < n → f' j = v
theorem v_fill {f g : Nat → Int32} {k i' v : Int32} (e : g = upd f k.toNatClampNeg v) (hk : 0 ≤ k.toInt) (h : ∀ j : Nat, (j : Int) < k.toInt → f j = v) (hi : i'.toInt = k.toInt + 1) : ∀ j : Nat, (j : Int) < i'.toInt → g j = v := by
  intro j hj
  have a := v_clamp hk
  rw [e]
  by_cases z : j = k.toNatClampNeg
  · rw [z, pk_us]
  · rw [pk_un z]; exact h j (by omega)
theorem F_add_l {cap : Nat} {l l' r : Int32} {f f' : Nat → Int32} {v : Int32} (h : F_add cap l l' r f f' v) (hl : l.toInt < cap) : l'.toInt = l.toInt + 1 := by
  rcases h with h | h
  · exact h.2.1
  · have := h.1
    omega
theorem F_add_f {cap : Nat} {l l' r : Int32} {f f' : Nat → Int32} {v : Int32} (h : F_add cap l l' r f f' v) (hl : l.toInt < cap) : f' = upd f l.toNatClampNeg v := by
  rcases h with h | h
  · exact h.2.2.2
  · have := h.1
    omega
theorem F_cut_l {l l' n : Int32} (h : F_cut l l' n) (h0 : 0 ≤ n.toInt) (hn : n.toInt ≤ l.toInt) : l'.toInt = n.toInt := by
  rcases h with h | h
  · rw [h.2.2]
  · rw [h.2]
    have := h.1
    omega
/-! a measure that falls -/
def MSd (z : Int) (k : Nat) : Prop := z.toNat < k
theorem ms_s (z : Int) : MSd z (z.toNat + 1) := Nat.lt_succ_self _
theorem ms_0 {z : Int} {P : Prop} (h : MSd z 0) : P := absurd h (Nat.not_lt_zero _)
theorem ms_lt {a b : Int} {k : Nat} (h : MSd a (k + 1)) (h1 : b < a) (h2 : 0 < a) : MSd b k := by
  unfold MSd at *
  omega
