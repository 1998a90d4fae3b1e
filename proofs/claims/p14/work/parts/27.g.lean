/-! 50.ref -/
section
/-! rows of the reference: what holds of a beginning, of marks, of the best ends -/
def prg (n lo hi : Int) (f : Nat → Int32) : Prop := ∀ j : Nat, (j : Int) < n → lo ≤ (f j).toInt ∧ (f j).toInt ≤ hi
theorem prg_of {n lo hi : Int} {f : Nat → Int32} (h : rg lo hi f) : prg n lo hi f := fun j _ => h j
theorem prg_0 {lo hi n : Int} {f : Nat → Int32} (h : n ≤ 0) : prg n lo hi f := fun j hj => by omega
theorem prg_step {lo hi : Int} {f : Nat → Int32} {k k' x : Int32} (h : prg k.toInt lo hi f) (e : x = f k.toNatClampNeg) (hk : 0 ≤ k.toInt) (hk' : k'.toInt = k.toInt + 1) (hx : lo ≤ x.toInt ∧ x.toInt ≤ hi) : prg k'.toInt lo hi f := by
  intro j hj
  by_cases z : j = k.toNatClampNeg
  · rw [z, ← e]; exact hx
  · have a := v_clamp hk
    exact h j (by omega)
theorem prg_at {n lo hi : Int} {f : Nat → Int32} {k x : Int32} (h : prg n lo hi f) (e : x = f k.toNatClampNeg) (hk : 0 ≤ k.toInt) (hn : k.toInt < n) : lo ≤ x.toInt ∧ x.toInt ≤ hi := by
  have a := v_clamp hk
  rw [e]; exact h _ (by omega)
theorem v_mulb {a b x : Int32} (h : x = a * b) (h1 : 1 ≤ a.toInt) (h2 : a.toInt ≤ 10000) (h3 : 1 ≤ b.toInt) (h4 : b.toInt ≤ 6) : a.toInt ≤ x.toInt ∧ x.toInt ≤ 6 * a.toInt := by
  have e1 : a.toInt * 1 ≤ a.toInt * b.toInt := Int.mul_le_mul_of_nonneg_left h3 (by omega)
  have e2 : a.toInt * b.toInt ≤ a.toInt * 6 := Int.mul_le_mul_of_nonneg_left h4 (by omega)
  rw [v_mul h (by omega) (by omega)]
  omega
/-- at most one of the first n entries is the mark -/
def mk1 (n : Int) (f : Nat → Int32) : Prop := ∀ i j : Nat, i < j → (j : Int) < n → (f i).toInt = 65533 → ¬ (f j).toInt = 65533
/-- none of the first n entries is the mark -/
def mk0 (n : Int) (f : Nat → Int32) : Prop := ∀ j : Nat, (j : Int) < n → ¬ (f j).toInt = 65533
/-- as many marks as m tells, as far as none or one is told -/
def mkN (n m : Int) (f : Nat → Int32) : Prop := (m = 0 → mk0 n f) ∧ (m = 1 → mk1 n f)
theorem mkN_0 {n : Int} {f : Nat → Int32} (h : n ≤ 0) : mkN n 0 f := ⟨fun _ j hj => by omega, fun e => by omega⟩
theorem mkN_no {f : Nat → Int32} {k k' x : Int32} {m : Int} (h : mkN k.toInt m f) (e : x = f k.toNatClampNeg) (hk : 0 ≤ k.toInt) (hk' : k'.toInt = k.toInt + 1) (hx : ¬ x.toInt = 65533) : mkN k'.toInt m f := by
  have a := v_clamp hk
  refine ⟨fun hm j hj => ?_, fun hm i j hij hj hi => ?_⟩
  · by_cases z : j = k.toNatClampNeg
    · rw [z, ← e]; exact hx
    · exact h.1 hm j (by omega)
  · by_cases z : j = k.toNatClampNeg
    · rw [z, ← e]; exact hx
    · exact h.2 hm i j hij (by omega) hi
theorem mkN_yes {f : Nat → Int32} {k k' x : Int32} {m : Int} (h : mkN k.toInt m f) (e : x = f k.toNatClampNeg) (hk : 0 ≤ k.toInt) (hk' : k'.toInt = k.toInt + 1) (hm0 : 0 ≤ m) : mkN k'.toInt (m + 1) f := by
  have a := v_clamp hk
  refine ⟨fun hm => by omega, fun hm i j hij hj hi => ?_⟩
  exact absurd hi (h.1 (by omega) i (by omega))
/-- one mark was met among the first n, or none is told to have been -/
def mkF (n : Int) (first : Int32) (f : Nat → Int32) : Prop := first.toInt = 1 ∨ ∃ i : Nat, (i : Int) < n ∧ (f i).toInt = 65533
theorem mkF_yes {f : Nat → Int32} {k k' x fi : Int32} (e : x = f k.toNatClampNeg) (hk : 0 ≤ k.toInt) (hk' : k'.toInt = k.toInt + 1) (hx : x.toInt = 65533) : mkF k'.toInt fi f := by
  have a := v_clamp hk
  exact Or.inr ⟨k.toNatClampNeg, by omega, by rw [← e]; exact hx⟩
theorem mkF_no {f : Nat → Int32} {k k' fi : Int32} (h : mkF k.toInt fi f) (hk' : k'.toInt = k.toInt + 1) : mkF k'.toInt fi f := by
  rcases h with h | ⟨i, h1, h2⟩
  · exact Or.inl h
  · exact Or.inr ⟨i, by omega, h2⟩
theorem mkF_two {f : Nat → Int32} {n : Int} {k x fi tw : Int32} (h : mkF k.toInt fi f) (ht : 0 ≤ tw.toInt ∨ mk1 n f) (e : x = f k.toNatClampNeg) (hk : 0 ≤ k.toInt) (hkn : k.toInt < n) (hx : x.toInt = 65533) (hf : ¬ fi.toInt = 1) : 0 ≤ tw.toInt := by
  have a := v_clamp hk
  rcases ht with ht | ht
  · exact ht
  · rcases h with h | ⟨i, h1, h2⟩
    · exact absurd h hf
    · exact absurd (by rw [← e]; exact hx) (ht i k.toNatClampNeg (by omega) (by omega) h2)
/-- the end and the harm kept for a place are good ones -/
def gE (n hm : Int) (f3 f4 : Nat → Int32) (j : Nat) : Prop := (j : Int) < (f3 j).toInt ∧ (f3 j).toInt ≤ n ∧ -1 ≤ (f4 j).toInt ∧ (f4 j).toInt < hm
def pE (i n hm : Int) (f3 f4 : Nat → Int32) : Prop := ∀ j : Nat, i < (j : Int) → (j : Int) < n → gE n hm f3 f4 j
theorem gE_set {n hm : Int} {f3 f4 g3 g4 : Nat → Int32} {i j h : Int32} (e3 : g3 = upd f3 i.toNatClampNeg j) (e4 : g4 = upd f4 i.toNatClampNeg h) (hi : 0 ≤ i.toInt) (h1 : i.toInt < j.toInt) (h2 : j.toInt ≤ n) (h3 : -1 ≤ h.toInt) (h4 : h.toInt < hm) : gE n hm g3 g4 i.toNatClampNeg := by
  have a := v_clamp hi
  unfold gE
  rw [e3, e4, pk_us, pk_us]
  exact ⟨by omega, h2, h3, h4⟩
theorem pE_set {n hm : Int} {f3 f4 g3 g4 : Nat → Int32} {i j h : Int32} (hp : pE i.toInt n hm f3 f4) (e3 : g3 = upd f3 i.toNatClampNeg j) (e4 : g4 = upd f4 i.toNatClampNeg h) (hi : 0 ≤ i.toInt) : pE i.toInt n hm g3 g4 := by
  have a := v_clamp hi
  intro q h1 h2
  have z : q ≠ i.toNatClampNeg := by omega
  have := hp q h1 h2
  unfold gE at this ⊢
  rw [e3, e4, pk_un z, pk_un z]
  exact this
theorem pE_down {n hm : Int} {f3 f4 : Nat → Int32} {i i' : Int32} (hp : pE i.toInt n hm f3 f4) (hg : gE n hm f3 f4 i.toNatClampNeg) (hi : 0 ≤ i.toInt) (hi' : i'.toInt = i.toInt - 1) : pE i'.toInt n hm f3 f4 := by
  have a := v_clamp hi
  intro q h1 h2
  by_cases z : q = i.toNatClampNeg
  · rw [z]; exact hg
  · exact hp q (by omega) h2
theorem pE_at {n hm : Int} {f3 f4 : Nat → Int32} {i x y : Int32} {q : Int} (hp : pE q n hm f3 f4) (hq : q < i.toInt) (hi : 0 ≤ i.toInt) (hn : i.toInt < n) (ex : x = f3 i.toNatClampNeg) (ey : y = f4 i.toNatClampNeg) : i.toInt < x.toInt ∧ x.toInt ≤ n ∧ -1 ≤ y.toInt ∧ y.toInt < hm := by
  have a := v_clamp hi
  have h := hp i.toNatClampNeg (by omega) (by omega)
  unfold gE at h
  rw [← ex, ← ey] at h
  omega
/-- letters told in a row by a step -/
theorem sp_step {le sp k k' y x : Int32} (h : ∀ q : Int32, 0 ≤ q.toInt → q.toInt < k.toInt → 0 ≤ (le + q * sp).toInt ∧ (le + q * sp).toInt ≤ 65535) (ey : y = k * sp) (ex : x = le + y) (hk' : k'.toInt = k.toInt + 1) (hx : 0 ≤ x.toInt ∧ x.toInt ≤ 65535) : ∀ q : Int32, 0 ≤ q.toInt → q.toInt < k'.toInt → 0 ≤ (le + q * sp).toInt ∧ (le + q * sp).toInt ≤ 65535 := by
  intro q h1 h2
  by_cases z : q.toInt = k.toInt
  · rw [v_inj z, ← ey, ← ex]; exact hx
  · exact h q h1 (by omega)
theorem sp_at {le sp k y x : Int32} {n : Int} (h : ∀ q : Int32, 0 ≤ q.toInt → q.toInt < n → 0 ≤ (le + q * sp).toInt ∧ (le + q * sp).toInt ≤ 65535) (ey : y = k * sp) (ex : x = le + y) (h1 : 0 ≤ k.toInt) (h2 : k.toInt < n) : 0 ≤ x.toInt ∧ x.toInt ≤ 65535 := by
  rw [ex, ey]; exact h k h1 h2
theorem sp_ix {le sp k y x z a : Int32} {n : Int} (h : ∀ q : Int32, 0 ≤ q.toInt → q.toInt < n → 0 ≤ (le + q * sp).toInt ∧ (le + q * sp).toInt ≤ 65535) (ey : y = k * sp) (ea : a = z + le) (ex : x = a + y) (h1 : 0 ≤ k.toInt) (h2 : k.toInt < n) (hz : 0 ≤ z.toInt ∧ z.toInt ≤ 65536) : z.toInt ≤ x.toInt ∧ x.toInt ≤ z.toInt + 65535 := by
  have e : x = z + (le + k * sp) := by rw [ex, ea, ey, Int32.add_assoc]
  have hh := h k h1 h2
  rw [v_add e (by omega) (by omega)]
  omega
/-- kept choices: the first is a byte, the second a byte or none by the number of marks -/
def gH (mk : Int) (f : Nat → Int32) (i : Nat) : Prop := (0 ≤ (f (4 * i)).toInt ∧ (f (4 * i)).toInt ≤ 255) ∧ ((mk = 1 ∧ (f (4 * i + 1)).toInt = -1) ∨ (mk = 2 ∧ 0 ≤ (f (4 * i + 1)).toInt ∧ (f (4 * i + 1)).toInt ≤ 255))
def pH (c mk : Int) (f : Nat → Int32) : Prop := ∀ i : Nat, (i : Int) < c → i < 200 → gH mk f i
/-- all but the one at k -/
def pHx (c k mk : Int) (f : Nat → Int32) : Prop := ∀ i : Nat, (i : Int) < c → i < 200 → ¬ (i : Int) = k → gH mk f i
def cp4 (k i : Int) (f : Nat → Int32) : Prop := ∀ q : Nat, (q : Int) < i → f (4 * k.toNat + q) = f (4 * k.toNat - 4 + q)
theorem pHx_of {c c2 k mk : Int} {f : Nat → Int32} (h : pH c mk f) (hc : c2 ≤ c + 1) (hk : k = c2 - 1 ∨ 199 ≤ c) (hk2 : 200 ≤ c2 → k = 199) : pHx c2 k mk f := by
  intro i h1 h2 h3
  exact h i (by omega) h2
theorem pHx_store {c k i mk : Int} {f g : Nat → Int32} {x v : Int32} (h : pHx c k mk f) (e : g = upd f x.toNatClampNeg v) (hx : x.toInt = 4 * k + i) (hk : 0 ≤ k) (hi : 0 ≤ i) (hi4 : i < 4) : pHx c k mk g := by
  have a := v_clamp (x := x) (by omega)
  intro j h1 h2 h3
  have hh := h j h1 h2 h3
  unfold gH at hh ⊢
  rw [e, pk_un (by omega), pk_un (by omega)]
  exact hh
theorem cp4_0 {k i : Int} {f : Nat → Int32} (h : i ≤ 0) : cp4 k i f := fun q hq => by omega
theorem cp4_step {k i i' : Int} {f g : Nat → Int32} {x y z : Int32} (h : cp4 k i f) (e : g = upd f x.toNatClampNeg y) (ey : y = f z.toNatClampNeg) (hx : x.toInt = 4 * k + i) (hz : z.toInt = 4 * k - 4 + i) (hk : 1 ≤ k) (hi : 0 ≤ i) (hi4 : i < 4) (hi' : i' = i + 1) : cp4 k i' g := by
  have a := v_clamp (x := x) (by omega)
  have b := v_clamp (x := z) (by omega)
  intro q hq
  have e2 : g (4 * k.toNat - 4 + q) = f (4 * k.toNat - 4 + q) := by rw [e, pk_un (by omega)]
  rw [e2]
  by_cases w : (q : Int) = i
  · have e3 : 4 * k.toNat + q = x.toNatClampNeg := by omega
    have e4 : 4 * k.toNat - 4 + q = z.toNatClampNeg := by omega
    rw [e3, e4, e, pk_us, ← ey]
  · rw [e, pk_un (by omega)]
    exact h q (by omega)
theorem pHx_down {c k k' mk : Int} {f : Nat → Int32} (h : pHx c k mk f) (hc : cp4 k 4 f) (hk : 1 ≤ k) (hkc : k < c) (hk2 : k < 200) (hk' : k' = k - 1) : pHx c k' mk f := by
  intro i h1 h2 h3
  by_cases z : (i : Int) = k
  · have e1 := h (i - 1) (by omega) (by omega) (by omega)
    have c0 := hc 0 (by omega)
    have c1 := hc 1 (by omega)
    have n1 : 4 * k.toNat + 0 = 4 * i := by omega
    have n2 : 4 * k.toNat - 4 + 0 = 4 * (i - 1) := by omega
    have n3 : 4 * k.toNat + 1 = 4 * i + 1 := by omega
    have n4 : 4 * k.toNat - 4 + 1 = 4 * (i - 1) + 1 := by omega
    rw [n1, n2] at c0
    rw [n3, n4] at c1
    unfold gH at e1 ⊢
    rw [c0, c1]
    exact e1
  · exact h i h1 h2 z
theorem pH_set {c k mk : Int} {f g0 g1 g2 g3 : Nat → Int32} {x0 x1 x2 x3 v0 v1 v2 v3 : Int32} (h : pHx c k mk f) (e0 : g0 = upd f x0.toNatClampNeg v0) (e1 : g1 = upd g0 x1.toNatClampNeg v1) (e2 : g2 = upd g1 x2.toNatClampNeg v2) (e3 : g3 = upd g2 x3.toNatClampNeg v3)
    (h0 : x0.toInt = 4 * k) (h1 : x1.toInt = 4 * k + 1) (h2 : x2.toInt = 4 * k + 2) (h3 : x3.toInt = 4 * k + 3) (hk : 0 ≤ k) (hv0 : 0 ≤ v0.toInt ∧ v0.toInt ≤ 255) (hv1 : (mk = 1 ∧ v1.toInt = -1) ∨ (mk = 2 ∧ 0 ≤ v1.toInt ∧ v1.toInt ≤ 255)) : pH c mk g3 := by
  have a0 := v_clamp (x := x0) (by omega)
  have a1 := v_clamp (x := x1) (by omega)
  have a2 := v_clamp (x := x2) (by omega)
  have a3 := v_clamp (x := x3) (by omega)
  intro i hi hi2
  by_cases z : (i : Int) = k
  · unfold gH
    have p0 : g3 (4 * i) = v0 := by
      rw [e3, pk_un (by omega), e2, pk_un (by omega), e1, pk_un (by omega), e0]
      have : 4 * i = x0.toNatClampNeg := by omega
      rw [this, pk_us]
    have p1 : g3 (4 * i + 1) = v1 := by
      rw [e3, pk_un (by omega), e2, pk_un (by omega), e1]
      have : 4 * i + 1 = x1.toNatClampNeg := by omega
      rw [this, pk_us]
    rw [p0, p1]
    exact ⟨hv0, hv1⟩
  · have q0 := pHx_store (i := 0) h e0 (by omega) hk (by omega) (by omega)
    have q1 := pHx_store (i := 1) q0 e1 (by omega) hk (by omega) (by omega)
    have q2 := pHx_store (i := 2) q1 e2 (by omega) hk (by omega) (by omega)
    have q3 := pHx_store (i := 3) q2 e3 (by omega) hk (by omega) (by omega)
    exact q3 i hi hi2 z
/-- what the choices kept are, as long as the state is the one that they were made in -/
def GCh (zq zs zy : Int32) (f eX eS : Nat → Int32) : Prop := zq.toInt = zs.toInt → ∃ mk : Int, pH zy.toInt mk f ∧ (mk = 1 → mk1 (eS 0).toInt eX)
def F_st (zs zs' : Int32) (eX eX' eS eS' : Nat → Int32) : Prop := zs'.toInt = zs.toInt + 1 ∨ (zs' = zs ∧ eX' = eX ∧ eS' = eS)
theorem GCh_at {zq zs zy i : Int32} {f eX eS : Nat → Int32} (h : GCh zq zs zy f eX eS) (hs : zq.toInt = zs.toInt) (h0 : 0 ≤ i.toInt) (h1 : i.toInt < zy.toInt) (h2 : i.toInt < 200) {x y : Int32} {j k : Int32} (hj : j.toInt = 4 * i.toInt) (hk : k.toInt = 4 * i.toInt + 1) (ex : x = f j.toNatClampNeg) (ey : y = f k.toNatClampNeg) : (0 ≤ x.toInt ∧ x.toInt ≤ 255) ∧ (-1 ≤ y.toInt ∧ y.toInt ≤ 255) ∧ (0 ≤ y.toInt ∨ mk1 (eS 0).toInt eX) := by
  obtain ⟨mk, hp, hm⟩ := h hs
  have a := v_clamp h0
  have b := v_clamp (x := j) (by omega)
  have c := v_clamp (x := k) (by omega)
  have g := hp i.toNatClampNeg (by omega) (by omega)
  unfold gH at g
  have e1 : 4 * i.toNatClampNeg = j.toNatClampNeg := by omega
  have e2 : 4 * i.toNatClampNeg + 1 = k.toNatClampNeg := by omega
  rw [e2, e1, ← ex, ← ey] at g
  rcases g.2 with ⟨g1, g2⟩ | ⟨g1, g2⟩
  · exact ⟨g.1, by omega, Or.inr (hm g1)⟩
  · exact ⟨g.1, by omega, Or.inl g2.1⟩

set_option maxHeartbeats 40000000 in
set_option maxRecDepth 100000 in
theorem m_X12_isCode (l : Launch) (dC : Nat → ClassId) (dI : Nat → Nat → Nat) (cI cS : ClassId) (sz : Nat) (cd : Int32)  : Met l yX12_isCode wsX12_isCode ({ frames := 0, cells := 0, slots := 0, locals := 0 } : Room) (va_Pc [.int cd] (fun U => U.heap.size = sz ∧ va_P (dC, dI) vwCl [] U.heap ∧ va_K (dC, dI) vwCl [(cI, .int), (cS, .short)] U ∧ va_D (fun _ => True) [])) (va_Qi (fun (r : Int32) (u : Int32) => r = u) (fun (r : Int32) t => va_P (dC, dI) vwCl [] t.heap ∧ va_D (va_A [] sz) [] ∧ (0 ≤ r.toInt ∧ r.toInt ≤ 1) ∧ ((r.toInt = 1 ∧ 0 ≤ cd.toInt ∧ cd.toInt ≤ 5) ∨ (r.toInt = 0 ∧ (cd.toInt < 0 ∨ 5 < cd.toInt)))) (va_A [] sz)) 0 0 (va_A [] sz) := by
  refine Met.ofW (cc := cX12_isCode) (maxL := 1) (ret := (some .boolean)) (by decide) rfl ?_
  intro p e s m args below meth c s₁ B hml hv
  obtain ⟨rfl, hsz, hP, hK, hD0⟩ := hv
  have hx := B.exec
  have hb := B.bytes
  have hr := B.returns
  have hts := atoms_spec (ws := wsX12_isCode) B.pre
  have hown : s.vm.findClass RX12 = some m.cls := findClass_of_methodNamed B.named
  have hlocks := B.notSynchronized
  subst hsz
  have hD := hD0.self (sz := s.heap.size)
  generalize hAe : va_A [] s.heap.size = A at hD ⊢
  have hA : ∀ q : Nat, s.heap.size ≤ q → A q := fun q h => by rw [← hAe]; exact Or.inr h
  have hS : va_S A s.heap s.heap [] := va_S.rf
  have hP : va_P (dC, dI) vwCl [] s.heap := hP
  have hl := lv_entry ([.int cd]) (n := 1) (Nat.le_of_ble_eq_true rfl)
  rw [lg_entry_eq]
  generalize (lg_sl ([.int cd]) ++ List.replicate (1 - (lg_sl ([.int cd])).length) Slot.unset).toArray = ls at hl ⊢
  have hl : lv_has ls 1 [(0, .int cd)] := hl
  obtain ⟨QQ, hQQ⟩ : ∃ QQ : Array Value → State → Outcome → State → Prop, QQ = va_Qi (fun (r : Int32) (u : Int32) => r = u) (fun (r : Int32) t => va_P (dC, dI) vwCl [] t.heap ∧ va_D A [] ∧ (0 ≤ r.toInt ∧ r.toInt ≤ 1) ∧ ((r.toInt = 1 ∧ 0 ≤ cd.toInt ∧ cd.toInt ≤ 5) ∨ (r.toInt = 0 ∧ (cd.toInt < 0 ∨ 5 < cd.toInt)))) A := ⟨_, rfl⟩
  rw [← hQQ]
  refine lv_iload_n hx hb dX12_isCode_0 rfl (lv_at hl 0 rfl) ?_
  refine lv_if_lt (tgt := 14) hx hb dX12_isCode_1 (by decide) (fun c_1 => ?_) (fun c_1 => ?_)
  · have tc_1 : cd.toInt < 0 := v_lt c_1
    refine lv_iconst (v := 0) hx hb dX12_isCode_14 (by decide) ?_
    have hP9 := hP.sub (ws' := []) [] rfl
    have hD9 := hD.sub (ws' := []) [] (by decide +kernel) rfl
    rw [hQQ]
    exact W.zret (v := 0) (ty := .boolean) hx hb hr (rfl) (fun t ht hW => ⟨⟨0, 0, rfl, rfl, ⟨by rw [ht]; exact hP9, hD9, by decide, by show (0 = 1 ∧ 0 ≤ cd.toInt ∧ cd.toInt ≤ 5) ∨ (0 = 0 ∧ (cd.toInt < 0 ∨ 5 < cd.toInt)); omega⟩⟩, hS.F ht⟩) hS.2.2 dX12_isCode_15
  · have tc_1 : 0 ≤ cd.toInt := v_nlt c_1
    refine lv_iload_n hx hb dX12_isCode_4 rfl (lv_at hl 0 rfl) ?_
    refine lv_bipush (v := 6) hx hb dX12_isCode_5 (by decide) ?_
    refine lv_icmp_ge (tgt := 14) hx hb dX12_isCode_7 (by decide) (fun c_2 => ?_) (fun c_2 => ?_)
    · have tc_2 : 6 ≤ cd.toInt := v_le c_2
      refine lv_iconst (v := 0) hx hb dX12_isCode_14 (by decide) ?_
      have hP9 := hP.sub (ws' := []) [] rfl
      have hD9 := hD.sub (ws' := []) [] (by decide +kernel) rfl
      rw [hQQ]
      exact W.zret (v := 0) (ty := .boolean) hx hb hr (rfl) (fun t ht hW => ⟨⟨0, 0, rfl, rfl, ⟨by rw [ht]; exact hP9, hD9, by decide, by show (0 = 1 ∧ 0 ≤ cd.toInt ∧ cd.toInt ≤ 5) ∨ (0 = 0 ∧ (cd.toInt < 0 ∨ 5 < cd.toInt)); omega⟩⟩, hS.F ht⟩) hS.2.2 dX12_isCode_15
    · have tc_2 : cd.toInt < 6 := v_nle c_2
      refine lv_iconst (v := 1) hx hb dX12_isCode_10 (by decide) ?_
      refine lv_goto (tgt := 15) hx hb dX12_isCode_11 (by decide) ?_
      have hP9 := hP.sub (ws' := []) [] rfl
      have hD9 := hD.sub (ws' := []) [] (by decide +kernel) rfl
      rw [hQQ]
      exact W.zret (v := 1) (ty := .boolean) hx hb hr (rfl) (fun t ht hW => ⟨⟨1, 1, rfl, rfl, ⟨by rw [ht]; exact hP9, hD9, by decide, by show (1 = 1 ∧ 0 ≤ cd.toInt ∧ cd.toInt ≤ 5) ∨ (1 = 0 ∧ (cd.toInt < 0 ∨ 5 < cd.toInt)); omega⟩⟩, hS.F ht⟩) hS.2.2 dX12_isCode_15

set_option maxHeartbeats 40000000 in
set_option maxRecDepth 100000 in
theorem m_X12_isLetter (l : Launch) (dC : Nat → ClassId) (dI : Nat → Nat → Nat) (cI cS : ClassId) (sz : Nat) (x : Int32)  : Met l yX12_isLetter wsX12_isLetter ({ frames := 0, cells := 0, slots := 0, locals := 0 } : Room) (va_Pc [.int x] (fun U => U.heap.size = sz ∧ va_P (dC, dI) vwCl [] U.heap ∧ va_K (dC, dI) vwCl [(cI, .int), (cS, .short)] U ∧ va_D (fun _ => True) [])) (va_Qi (fun (r : Int32) (u : Int32) => r = u) (fun (r : Int32) t => va_P (dC, dI) vwCl [] t.heap ∧ va_D (va_A [] sz) [] ∧ (0 ≤ r.toInt ∧ r.toInt ≤ 1) ∧ ((r.toInt = 1 ∧ 0 ≤ x.toInt ∧ x.toInt ≤ 65535 ∧ (x.toInt < 55296 ∨ 57343 < x.toInt)) ∨ (r.toInt = 0 ∧ (x.toInt < 0 ∨ 65535 < x.toInt ∨ (55296 ≤ x.toInt ∧ x.toInt ≤ 57343))))) (va_A [] sz)) 0 0 (va_A [] sz) := by
  refine Met.ofW (cc := cX12_isLetter) (maxL := 1) (ret := (some .boolean)) (by decide) rfl ?_
  intro p e s m args below meth c s₁ B hml hv
  obtain ⟨rfl, hsz, hP, hK, hD0⟩ := hv
  have hx := B.exec
  have hb := B.bytes
  have hr := B.returns
  have hts := atoms_spec (ws := wsX12_isLetter) B.pre
  have hown : s.vm.findClass RX12 = some m.cls := findClass_of_methodNamed B.named
  have hlocks := B.notSynchronized
  subst hsz
  have hD := hD0.self (sz := s.heap.size)
  generalize hAe : va_A [] s.heap.size = A at hD ⊢
  have hA : ∀ q : Nat, s.heap.size ≤ q → A q := fun q h => by rw [← hAe]; exact Or.inr h
  have hS : va_S A s.heap s.heap [] := va_S.rf
  have hP : va_P (dC, dI) vwCl [] s.heap := hP
  have hl := lv_entry ([.int x]) (n := 1) (Nat.le_of_ble_eq_true rfl)
  rw [lg_entry_eq]
  generalize (lg_sl ([.int x]) ++ List.replicate (1 - (lg_sl ([.int x])).length) Slot.unset).toArray = ls at hl ⊢
  have hl : lv_has ls 1 [(0, .int x)] := hl
  obtain ⟨QQ, hQQ⟩ : ∃ QQ : Array Value → State → Outcome → State → Prop, QQ = va_Qi (fun (r : Int32) (u : Int32) => r = u) (fun (r : Int32) t => va_P (dC, dI) vwCl [] t.heap ∧ va_D A [] ∧ (0 ≤ r.toInt ∧ r.toInt ≤ 1) ∧ ((r.toInt = 1 ∧ 0 ≤ x.toInt ∧ x.toInt ≤ 65535 ∧ (x.toInt < 55296 ∨ 57343 < x.toInt)) ∨ (r.toInt = 0 ∧ (x.toInt < 0 ∨ 65535 < x.toInt ∨ (55296 ≤ x.toInt ∧ x.toInt ≤ 57343))))) A := ⟨_, rfl⟩
  rw [← hQQ]
  refine lv_iload_n hx hb dX12_isLetter_0 rfl (lv_at hl 0 rfl) ?_
  refine lv_if_lt (tgt := 26) hx hb dX12_isLetter_1 (by decide) (fun c_1 => ?_) (fun c_1 => ?_)
  · have tc_1 : x.toInt < 0 := v_lt c_1
    refine lv_iconst (v := 0) hx hb dX12_isLetter_26 (by decide) ?_
    have hP9 := hP.sub (ws' := []) [] rfl
    have hD9 := hD.sub (ws' := []) [] (by decide +kernel) rfl
    rw [hQQ]
    exact W.zret (v := 0) (ty := .boolean) hx hb hr (rfl) (fun t ht hW => ⟨⟨0, 0, rfl, rfl, ⟨by rw [ht]; exact hP9, hD9, by decide, by show (0 = 1 ∧ 0 ≤ x.toInt ∧ x.toInt ≤ 65535 ∧ (x.toInt < 55296 ∨ 57343 < x.toInt)) ∨ (0 = 0 ∧ (x.toInt < 0 ∨ 65535 < x.toInt ∨ (55296 ≤ x.toInt ∧ x.toInt ≤ 57343))); omega⟩⟩, hS.F ht⟩) hS.2.2 dX12_isLetter_27
  · have tc_1 : 0 ≤ x.toInt := v_nlt c_1
    refine lv_iload_n hx hb dX12_isLetter_4 rfl (lv_at hl 0 rfl) ?_
    refine lv_ldc hx hb hown (hts (.constant RX12 88 (65536)) (List.mem_of_getElem? (i := 1) rfl)) dX12_isLetter_5 ?_
    refine lv_icmp_ge (tgt := 26) hx hb dX12_isLetter_7 (by decide) (fun c_2 => ?_) (fun c_2 => ?_)
    · have tc_2 : 65536 ≤ x.toInt := v_le c_2
      refine lv_iconst (v := 0) hx hb dX12_isLetter_26 (by decide) ?_
      have hP9 := hP.sub (ws' := []) [] rfl
      have hD9 := hD.sub (ws' := []) [] (by decide +kernel) rfl
      rw [hQQ]
      exact W.zret (v := 0) (ty := .boolean) hx hb hr (rfl) (fun t ht hW => ⟨⟨0, 0, rfl, rfl, ⟨by rw [ht]; exact hP9, hD9, by decide, by show (0 = 1 ∧ 0 ≤ x.toInt ∧ x.toInt ≤ 65535 ∧ (x.toInt < 55296 ∨ 57343 < x.toInt)) ∨ (0 = 0 ∧ (x.toInt < 0 ∨ 65535 < x.toInt ∨ (55296 ≤ x.toInt ∧ x.toInt ≤ 57343))); omega⟩⟩, hS.F ht⟩) hS.2.2 dX12_isLetter_27
    · have tc_2 : x.toInt < 65536 := v_nle c_2
      refine lv_iload_n hx hb dX12_isLetter_10 rfl (lv_at hl 0 rfl) ?_
      refine lv_ldc hx hb hown (hts (.constant RX12 89 (55296)) (List.mem_of_getElem? (i := 2) rfl)) dX12_isLetter_11 ?_
      refine lv_icmp_lt (tgt := 22) hx hb dX12_isLetter_13 (by decide) (fun c_3 => ?_) (fun c_3 => ?_)
      · have tc_3 : x.toInt < 55296 := v_lt c_3
        refine lv_iconst (v := 1) hx hb dX12_isLetter_22 (by decide) ?_
        refine lv_goto (tgt := 27) hx hb dX12_isLetter_23 (by decide) ?_
        have hP9 := hP.sub (ws' := []) [] rfl
        have hD9 := hD.sub (ws' := []) [] (by decide +kernel) rfl
        rw [hQQ]
        exact W.zret (v := 1) (ty := .boolean) hx hb hr (rfl) (fun t ht hW => ⟨⟨1, 1, rfl, rfl, ⟨by rw [ht]; exact hP9, hD9, by decide, by show (1 = 1 ∧ 0 ≤ x.toInt ∧ x.toInt ≤ 65535 ∧ (x.toInt < 55296 ∨ 57343 < x.toInt)) ∨ (1 = 0 ∧ (x.toInt < 0 ∨ 65535 < x.toInt ∨ (55296 ≤ x.toInt ∧ x.toInt ≤ 57343))); omega⟩⟩, hS.F ht⟩) hS.2.2 dX12_isLetter_27
      · have tc_3 : 55296 ≤ x.toInt := v_nlt c_3
        refine lv_iload_n hx hb dX12_isLetter_16 rfl (lv_at hl 0 rfl) ?_
        refine lv_ldc hx hb hown (hts (.constant RX12 90 (57343)) (List.mem_of_getElem? (i := 3) rfl)) dX12_isLetter_17 ?_
        refine lv_icmp_le (tgt := 26) hx hb dX12_isLetter_19 (by decide) (fun c_4 => ?_) (fun c_4 => ?_)
        · have tc_4 : x.toInt ≤ 57343 := v_le c_4
          refine lv_iconst (v := 0) hx hb dX12_isLetter_26 (by decide) ?_
          have hP9 := hP.sub (ws' := []) [] rfl
          have hD9 := hD.sub (ws' := []) [] (by decide +kernel) rfl
          rw [hQQ]
          exact W.zret (v := 0) (ty := .boolean) hx hb hr (rfl) (fun t ht hW => ⟨⟨0, 0, rfl, rfl, ⟨by rw [ht]; exact hP9, hD9, by decide, by show (0 = 1 ∧ 0 ≤ x.toInt ∧ x.toInt ≤ 65535 ∧ (x.toInt < 55296 ∨ 57343 < x.toInt)) ∨ (0 = 0 ∧ (x.toInt < 0 ∨ 65535 < x.toInt ∨ (55296 ≤ x.toInt ∧ x.toInt ≤ 57343))); omega⟩⟩, hS.F ht⟩) hS.2.2 dX12_isLetter_27
        · have tc_4 : 57343 < x.toInt := v_nle c_4
          refine lv_iconst (v := 1) hx hb dX12_isLetter_22 (by decide) ?_
          refine lv_goto (tgt := 27) hx hb dX12_isLetter_23 (by decide) ?_
          have hP9 := hP.sub (ws' := []) [] rfl
          have hD9 := hD.sub (ws' := []) [] (by decide +kernel) rfl
          rw [hQQ]
          exact W.zret (v := 1) (ty := .boolean) hx hb hr (rfl) (fun t ht hW => ⟨⟨1, 1, rfl, rfl, ⟨by rw [ht]; exact hP9, hD9, by decide, by show (1 = 1 ∧ 0 ≤ x.toInt ∧ x.toInt ≤ 65535 ∧ (x.toInt < 55296 ∨ 57343 < x.toInt)) ∨ (1 = 0 ∧ (x.toInt < 0 ∨ 65535 < x.toInt ∨ (55296 ≤ x.toInt ∧ x.toInt ≤ 57343))); omega⟩⟩, hS.F ht⟩) hS.2.2 dX12_isLetter_27

set_option maxHeartbeats 40000000 in
set_option maxRecDepth 100000 in
theorem m_X12_goesOn (l : Launch) (dC : Nat → ClassId) (dI : Nat → Nat → Nat) (cI cS : ClassId) (sz : Nat) (v : Int32)  : Met l yX12_goesOn wsX12_goesOn ({ frames := 0, cells := 0, slots := 0, locals := 0 } : Room) (va_Pc [.int v] (fun U => U.heap.size = sz ∧ va_P (dC, dI) vwCl [] U.heap ∧ va_K (dC, dI) vwCl [(cI, .int), (cS, .short)] U ∧ va_D (fun _ => True) [])) (va_Qi (fun (r : Int32) (u : Int32) => r = u) (fun (r : Int32) t => va_P (dC, dI) vwCl [] t.heap ∧ va_D (va_A [] sz) [] ∧ (0 ≤ r.toInt ∧ r.toInt ≤ 1) ∧ ((r.toInt = 1 ∧ 128 ≤ v.toInt ∧ v.toInt ≤ 191) ∨ (r.toInt = 0 ∧ (v.toInt < 128 ∨ 191 < v.toInt)))) (va_A [] sz)) 0 0 (va_A [] sz) := by
  refine Met.ofW (cc := cX12_goesOn) (maxL := 1) (ret := (some .boolean)) (by decide) rfl ?_
  intro p e s m args below meth c s₁ B hml hv
  obtain ⟨rfl, hsz, hP, hK, hD0⟩ := hv
  have hx := B.exec
  have hb := B.bytes
  have hr := B.returns
  have hts := atoms_spec (ws := wsX12_goesOn) B.pre
  have hown : s.vm.findClass RX12 = some m.cls := findClass_of_methodNamed B.named
  have hlocks := B.notSynchronized
  subst hsz
  have hD := hD0.self (sz := s.heap.size)
  generalize hAe : va_A [] s.heap.size = A at hD ⊢
  have hA : ∀ q : Nat, s.heap.size ≤ q → A q := fun q h => by rw [← hAe]; exact Or.inr h
  have hS : va_S A s.heap s.heap [] := va_S.rf
  have hP : va_P (dC, dI) vwCl [] s.heap := hP
  have hl := lv_entry ([.int v]) (n := 1) (Nat.le_of_ble_eq_true rfl)
  rw [lg_entry_eq]
  generalize (lg_sl ([.int v]) ++ List.replicate (1 - (lg_sl ([.int v])).length) Slot.unset).toArray = ls at hl ⊢
  have hl : lv_has ls 1 [(0, .int v)] := hl
  obtain ⟨QQ, hQQ⟩ : ∃ QQ : Array Value → State → Outcome → State → Prop, QQ = va_Qi (fun (r : Int32) (u : Int32) => r = u) (fun (r : Int32) t => va_P (dC, dI) vwCl [] t.heap ∧ va_D A [] ∧ (0 ≤ r.toInt ∧ r.toInt ≤ 1) ∧ ((r.toInt = 1 ∧ 128 ≤ v.toInt ∧ v.toInt ≤ 191) ∨ (r.toInt = 0 ∧ (v.toInt < 128 ∨ 191 < v.toInt)))) A := ⟨_, rfl⟩
  rw [← hQQ]
  refine lv_iload_n hx hb dX12_goesOn_0 rfl (lv_at hl 0 rfl) ?_
  refine lv_sipush (v := 128) hx hb dX12_goesOn_1 (by decide) ?_
  refine lv_icmp_lt (tgt := 18) hx hb dX12_goesOn_4 (by decide) (fun c_1 => ?_) (fun c_1 => ?_)
  · have tc_1 : v.toInt < 128 := v_lt c_1
    refine lv_iconst (v := 0) hx hb dX12_goesOn_18 (by decide) ?_
    have hP9 := hP.sub (ws' := []) [] rfl
    have hD9 := hD.sub (ws' := []) [] (by decide +kernel) rfl
    rw [hQQ]
    exact W.zret (v := 0) (ty := .boolean) hx hb hr (rfl) (fun t ht hW => ⟨⟨0, 0, rfl, rfl, ⟨by rw [ht]; exact hP9, hD9, by decide, by show (0 = 1 ∧ 128 ≤ v.toInt ∧ v.toInt ≤ 191) ∨ (0 = 0 ∧ (v.toInt < 128 ∨ 191 < v.toInt)); omega⟩⟩, hS.F ht⟩) hS.2.2 dX12_goesOn_19
  · have tc_1 : 128 ≤ v.toInt := v_nlt c_1
    refine lv_iload_n hx hb dX12_goesOn_7 rfl (lv_at hl 0 rfl) ?_
    refine lv_sipush (v := 192) hx hb dX12_goesOn_8 (by decide) ?_
    refine lv_icmp_ge (tgt := 18) hx hb dX12_goesOn_11 (by decide) (fun c_2 => ?_) (fun c_2 => ?_)
    · have tc_2 : 192 ≤ v.toInt := v_le c_2
      refine lv_iconst (v := 0) hx hb dX12_goesOn_18 (by decide) ?_
      have hP9 := hP.sub (ws' := []) [] rfl
      have hD9 := hD.sub (ws' := []) [] (by decide +kernel) rfl
      rw [hQQ]
      exact W.zret (v := 0) (ty := .boolean) hx hb hr (rfl) (fun t ht hW => ⟨⟨0, 0, rfl, rfl, ⟨by rw [ht]; exact hP9, hD9, by decide, by show (0 = 1 ∧ 128 ≤ v.toInt ∧ v.toInt ≤ 191) ∨ (0 = 0 ∧ (v.toInt < 128 ∨ 191 < v.toInt)); omega⟩⟩, hS.F ht⟩) hS.2.2 dX12_goesOn_19
    · have tc_2 : v.toInt < 192 := v_nle c_2
      refine lv_iconst (v := 1) hx hb dX12_goesOn_14 (by decide) ?_
      refine lv_goto (tgt := 19) hx hb dX12_goesOn_15 (by decide) ?_
      have hP9 := hP.sub (ws' := []) [] rfl
      have hD9 := hD.sub (ws' := []) [] (by decide +kernel) rfl
      rw [hQQ]
      exact W.zret (v := 1) (ty := .boolean) hx hb hr (rfl) (fun t ht hW => ⟨⟨1, 1, rfl, rfl, ⟨by rw [ht]; exact hP9, hD9, by decide, by show (1 = 1 ∧ 128 ≤ v.toInt ∧ v.toInt ≤ 191) ∨ (1 = 0 ∧ (v.toInt < 128 ∨ 191 < v.toInt)); omega⟩⟩, hS.F ht⟩) hS.2.2 dX12_goesOn_19

set_option maxHeartbeats 40000000 in
set_option maxRecDepth 100000 in
theorem m_X12_put (l : Launch) (dC : Nat → ClassId) (dI : Nat → Nat → Nat) (cI cS : ClassId) (sz : Nat) (oM : Nat) (mT : Nat) (mS : Nat) (mX : Nat) (mL : Nat) (mB : Nat) (mD : Nat) (m1 : Nat) (m2 : Nat) (mR : Nat) (x1 : Nat) (x2 : Nat) (x3 : Nat) (mH : Nat) (mY : Nat) (mE : Nat) (mW : Nat) (mO : Nat) (y1 : Nat) (y2 : Nat) (y3 : Nat) (y4 : Nat) (mZ : Nat) (zt : Int32) (zp : Int32) (zf : Int32) (zh : Int32) (zr : Int32) (zc : Int32) (zy : Int32) (za : Int32) (zb : Int32) (zs : Int32) (zq : Int32) (zw : Int32) (ze : Int32) (zn : Int32) (zm : Int32) (zl : Int32) (zk : Int32) (zd : Int32) (eY : Nat → Int32) (v : Int32) (g_zt : 0 ≤ zt.toInt ∧ zt.toInt ≤ 900) (g_zp : 0 ≤ zp.toInt ∧ zp.toInt ≤ 20) (g_zf : 0 ≤ zf.toInt ∧ zf.toInt ≤ 19) (g_zh : 0 ≤ zh.toInt ∧ zh.toInt ≤ 6) (g_zr : 0 ≤ zr.toInt ∧ zr.toInt ≤ 258) (g_zc : 0 ≤ zc.toInt ∧ zc.toInt ≤ 300) (g_zy : 0 ≤ zy.toInt ∧ zy.toInt ≤ 65536) (g_za : 0 ≤ za.toInt ∧ za.toInt ≤ 5) (g_zb : 0 ≤ zb.toInt ∧ zb.toInt ≤ 5) (g_zs : 0 ≤ zs.toInt ∧ zs.toInt ≤ 2000000) (g_zq : -1 ≤ zq.toInt ∧ zq.toInt ≤ 2000000) (g_zn : 0 ≤ zn.toInt ∧ zn.toInt ≤ 2600) (g_zm : 0 ≤ zm.toInt ∧ zm.toInt ≤ 2600) (g_zk : 0 ≤ zk.toInt ∧ zk.toInt ≤ 300) (g_eY : rg 0 255 eY) (g_v : 0 ≤ v.toInt ∧ v.toInt ≤ 255) (hzn : zn.toInt ≤ 2599) : Met l yX12_put wsX12_put ({ frames := 0, cells := 0, slots := 0, locals := 0 } : Room) (va_Pc [.ref oM, .int v] (fun U => U.heap.size = sz ∧ va_P (dC, dI) vwCl [(oM, .inr (12, [.ref mT, .int zt, .ref mS, .ref mX, .int zp, .int zf, .ref mL, .ref mB, .ref mD, .ref m1, .ref m2, .int zh, .ref mR, .int zr, .ref x1, .ref x2, .ref x3, .int zc, .ref mH, .int zy, .int za, .int zb, .int zs, .int zq, .int zw, .int ze, .ref mY, .int zn, .ref mE, .int zm, .int zl, .ref mW, .int zk, .ref mO, .int zd, .ref y1, .ref y2, .ref y3, .ref y4, .ref mZ])), (mY, .inl (cI, 2600, .inl eY))] U.heap ∧ va_K (dC, dI) vwCl [(cI, .int), (cS, .short)] U ∧ va_D (fun _ => True) [(oM, .inr (12, [.ref mT, .int zt, .ref mS, .ref mX, .int zp, .int zf, .ref mL, .ref mB, .ref mD, .ref m1, .ref m2, .int zh, .ref mR, .int zr, .ref x1, .ref x2, .ref x3, .int zc, .ref mH, .int zy, .int za, .int zb, .int zs, .int zq, .int zw, .int ze, .ref mY, .int zn, .ref mE, .int zm, .int zl, .ref mW, .int zk, .ref mO, .int zd, .ref y1, .ref y2, .ref y3, .ref y4, .ref mZ])), (mY, .inl (cI, 2600, .inl eY))])) (va_Qv (fun (_ : Unit) => True) (fun _ t => ∃ (zn' : Int32) (eY' : Nat → Int32), va_P (dC, dI) vwCl [(oM, .inr (12, [.ref mT, .int zt, .ref mS, .ref mX, .int zp, .int zf, .ref mL, .ref mB, .ref mD, .ref m1, .ref m2, .int zh, .ref mR, .int zr, .ref x1, .ref x2, .ref x3, .int zc, .ref mH, .int zy, .int za, .int zb, .int zs, .int zq, .int zw, .int ze, .ref mY, .int zn', .ref mE, .int zm, .int zl, .ref mW, .int zk, .ref mO, .int zd, .ref y1, .ref y2, .ref y3, .ref y4, .ref mZ])), (mY, .inl (cI, 2600, .inl eY'))] t.heap ∧ va_D (va_A [(oM, .inr (12, [.ref mT, .int zt, .ref mS, .ref mX, .int zp, .int zf, .ref mL, .ref mB, .ref mD, .ref m1, .ref m2, .int zh, .ref mR, .int zr, .ref x1, .ref x2, .ref x3, .int zc, .ref mH, .int zy, .int za, .int zb, .int zs, .int zq, .int zw, .int ze, .ref mY, .int zn, .ref mE, .int zm, .int zl, .ref mW, .int zk, .ref mO, .int zd, .ref y1, .ref y2, .ref y3, .ref y4, .ref mZ])), (mY, .inl (cI, 2600, .inl eY))] sz) [(oM, .inr (12, [.ref mT, .int zt, .ref mS, .ref mX, .int zp, .int zf, .ref mL, .ref mB, .ref mD, .ref m1, .ref m2, .int zh, .ref mR, .int zr, .ref x1, .ref x2, .ref x3, .int zc, .ref mH, .int zy, .int za, .int zb, .int zs, .int zq, .int zw, .int ze, .ref mY, .int zn', .ref mE, .int zm, .int zl, .ref mW, .int zk, .ref mO, .int zd, .ref y1, .ref y2, .ref y3, .ref y4, .ref mZ])), (mY, .inl (cI, 2600, .inl eY'))] ∧ (0 ≤ zn'.toInt ∧ zn'.toInt ≤ 2600) ∧ (rg 0 255 eY') ∧ (zn'.toInt = zn.toInt + 1)) (va_A [(oM, .inr (12, [.ref mT, .int zt, .ref mS, .ref mX, .int zp, .int zf, .ref mL, .ref mB, .ref mD, .ref m1, .ref m2, .int zh, .ref mR, .int zr, .ref x1, .ref x2, .ref x3, .int zc, .ref mH, .int zy, .int za, .int zb, .int zs, .int zq, .int zw, .int ze, .ref mY, .int zn, .ref mE, .int zm, .int zl, .ref mW, .int zk, .ref mO, .int zd, .ref y1, .ref y2, .ref y3, .ref y4, .ref mZ])), (mY, .inl (cI, 2600, .inl eY))] sz)) 0 0 (va_A [(oM, .inr (12, [.ref mT, .int zt, .ref mS, .ref mX, .int zp, .int zf, .ref mL, .ref mB, .ref mD, .ref m1, .ref m2, .int zh, .ref mR, .int zr, .ref x1, .ref x2, .ref x3, .int zc, .ref mH, .int zy, .int za, .int zb, .int zs, .int zq, .int zw, .int ze, .ref mY, .int zn, .ref mE, .int zm, .int zl, .ref mW, .int zk, .ref mO, .int zd, .ref y1, .ref y2, .ref y3, .ref y4, .ref mZ])), (mY, .inl (cI, 2600, .inl eY))] sz) := by
  refine Met.ofW (cc := cX12_put) (maxL := 2) (ret := none) (by decide) rfl ?_
  intro p e s m args below meth c s₁ B hml hv
  obtain ⟨rfl, hsz, hP, hK, hD0⟩ := hv
  have hx := B.exec
  have hb := B.bytes
  have hr := B.returns
  have hts := atoms_spec (ws := wsX12_put) B.pre
  have hown : s.vm.findClass RX12 = some m.cls := findClass_of_methodNamed B.named
  have hlocks := B.notSynchronized
  have in_X12 : ∀ w ∈ wsX120, w ∈ wsX12_put := fun _ h => List.mem_cons_of_mem _ (List.mem_append_right _ (h))
  subst hsz
  have hD := hD0.self (sz := s.heap.size)
  generalize hAe : va_A [(oM, .inr (12, [.ref mT, .int zt, .ref mS, .ref mX, .int zp, .int zf, .ref mL, .ref mB, .ref mD, .ref m1, .ref m2, .int zh, .ref mR, .int zr, .ref x1, .ref x2, .ref x3, .int zc, .ref mH, .int zy, .int za, .int zb, .int zs, .int zq, .int zw, .int ze, .ref mY, .int zn, .ref mE, .int zm, .int zl, .ref mW, .int zk, .ref mO, .int zd, .ref y1, .ref y2, .ref y3, .ref y4, .ref mZ])), (mY, .inl (cI, 2600, .inl eY))] s.heap.size = A at hD ⊢
  have hA : ∀ q : Nat, s.heap.size ≤ q → A q := fun q h => by rw [← hAe]; exact Or.inr h
  have hS : va_S A s.heap s.heap [] := va_S.rf
  have hP : va_P (dC, dI) vwCl [(oM, .inr (12, [.ref mT, .int zt, .ref mS, .ref mX, .int zp, .int zf, .ref mL, .ref mB, .ref mD, .ref m1, .ref m2, .int zh, .ref mR, .int zr, .ref x1, .ref x2, .ref x3, .int zc, .ref mH, .int zy, .int za, .int zb, .int zs, .int zq, .int zw, .int ze, .ref mY, .int zn, .ref mE, .int zm, .int zl, .ref mW, .int zk, .ref mO, .int zd, .ref y1, .ref y2, .ref y3, .ref y4, .ref mZ])), (mY, .inl (cI, 2600, .inl eY))] s.heap := hP
  have hl := lv_entry ([.ref oM, .int v]) (n := 2) (Nat.le_of_ble_eq_true rfl)
  rw [lg_entry_eq]
  generalize (lg_sl ([.ref oM, .int v]) ++ List.replicate (2 - (lg_sl ([.ref oM, .int v])).length) Slot.unset).toArray = ls at hl ⊢
  have hl : lv_has ls 2 [(0, .ref oM), (1, .int v)] := hl
  obtain ⟨QQ, hQQ⟩ : ∃ QQ : Array Value → State → Outcome → State → Prop, QQ = va_Qv (fun (_ : Unit) => True) (fun _ t => ∃ (zn' : Int32) (eY' : Nat → Int32), va_P (dC, dI) vwCl [(oM, .inr (12, [.ref mT, .int zt, .ref mS, .ref mX, .int zp, .int zf, .ref mL, .ref mB, .ref mD, .ref m1, .ref m2, .int zh, .ref mR, .int zr, .ref x1, .ref x2, .ref x3, .int zc, .ref mH, .int zy, .int za, .int zb, .int zs, .int zq, .int zw, .int ze, .ref mY, .int zn', .ref mE, .int zm, .int zl, .ref mW, .int zk, .ref mO, .int zd, .ref y1, .ref y2, .ref y3, .ref y4, .ref mZ])), (mY, .inl (cI, 2600, .inl eY'))] t.heap ∧ va_D A [(oM, .inr (12, [.ref mT, .int zt, .ref mS, .ref mX, .int zp, .int zf, .ref mL, .ref mB, .ref mD, .ref m1, .ref m2, .int zh, .ref mR, .int zr, .ref x1, .ref x2, .ref x3, .int zc, .ref mH, .int zy, .int za, .int zb, .int zs, .int zq, .int zw, .int ze, .ref mY, .int zn', .ref mE, .int zm, .int zl, .ref mW, .int zk, .ref mO, .int zd, .ref y1, .ref y2, .ref y3, .ref y4, .ref mZ])), (mY, .inl (cI, 2600, .inl eY'))] ∧ (0 ≤ zn'.toInt ∧ zn'.toInt ≤ 2600) ∧ (rg 0 255 eY') ∧ (zn'.toInt = zn.toInt + 1)) A := ⟨_, rfl⟩
  rw [← hQQ]
  refine lv_aload_n hx hb dX12_put_0 rfl (lv_at hl 0 rfl) ?_
  refine va_get (D := (dC, dI)) (ci := 12) (v := .ref mY) (C := RX12) (T := TX12) (N := 40) hx hb hts in_X12 hown hK hP 0 rfl rfl 26 (by decide) (hts (.fieldLink RX12 58 "TextMenderModel" "bytes" "[I") (List.mem_of_getElem? (i := 1) rfl)) (fun _ h9 => h9) rfl dX12_put_1 ?_
  refine lv_aload_n hx hb dX12_put_4 rfl (lv_at hl 0 rfl) ?_
  refine va_get (D := (dC, dI)) (ci := 12) (v := .int zn) (C := RX12) (T := TX12) (N := 40) hx hb hts in_X12 hown hK hP 0 rfl rfl 27 (by decide) (hts (.fieldLink RX12 91 "TextMenderModel" "byteMany" "I") (List.mem_of_getElem? (i := 2) rfl)) (fun _ h9 => h9) rfl dX12_put_5 ?_
  refine lv_iload_n hx hb dX12_put_8 rfl (lv_at hl 1 rfl) ?_
  refine va_iast hx hb hK hP hD hS 1 0 rfl rfl (v_in (by omega)) dX12_put_9 (fun H locs hPn hDn hSn => ?_)
  clear hP hD hS
  have hP : va_P (dC, dI) vwCl [(oM, .inr (12, [.ref mT, .int zt, .ref mS, .ref mX, .int zp, .int zf, .ref mL, .ref mB, .ref mD, .ref m1, .ref m2, .int zh, .ref mR, .int zr, .ref x1, .ref x2, .ref x3, .int zc, .ref mH, .int zy, .int za, .int zb, .int zs, .int zq, .int zw, .int ze, .ref mY, .int zn, .ref mE, .int zm, .int zl, .ref mW, .int zk, .ref mO, .int zd, .ref y1, .ref y2, .ref y3, .ref y4, .ref mZ])), (mY, .inl (cI, 2600, .inl (upd eY (zn : Int32).toNatClampNeg v)))] H := hPn
  have hD : va_D A [(oM, .inr (12, [.ref mT, .int zt, .ref mS, .ref mX, .int zp, .int zf, .ref mL, .ref mB, .ref mD, .ref m1, .ref m2, .int zh, .ref mR, .int zr, .ref x1, .ref x2, .ref x3, .int zc, .ref mH, .int zy, .int za, .int zb, .int zs, .int zq, .int zw, .int ze, .ref mY, .int zn, .ref mE, .int zm, .int zl, .ref mW, .int zk, .ref mO, .int zd, .ref y1, .ref y2, .ref y3, .ref y4, .ref mZ])), (mY, .inl (cI, 2600, .inl (upd eY (zn : Int32).toNatClampNeg v)))] := hDn
  have hS := hSn
  clear hPn hDn hSn
  obtain ⟨f_1, ef_1⟩ : ∃ g : Nat → Int32, g = upd eY (zn : Int32).toNatClampNeg v := ⟨_, rfl⟩
  rw [← ef_1] at hP hD
  have g_f1 : rg 0 255 f_1 := rg_upd ef_1 g_eY (by omega)
  refine lv_aload_n hx hb dX12_put_10 rfl (lv_at hl 0 rfl) ?_
  refine lv_dup hx hb dX12_put_11 rfl ?_
  refine va_get (D := (dC, dI)) (ci := 12) (v := .int zn) (C := RX12) (T := TX12) (N := 40) hx hb hts in_X12 hown hK hP 0 rfl rfl 27 (by decide) (hts (.fieldLink RX12 91 "TextMenderModel" "byteMany" "I") (List.mem_of_getElem? (i := 2) rfl)) (fun _ h9 => h9) rfl dX12_put_12 ?_
  refine lv_iconst (v := 1) hx hb dX12_put_15 (by decide) ?_
  refine lv_iadd hx hb dX12_put_16 ?_
  refine lv_topi (fun x_2 ex_2 => ?_)
  have tx_2 : x_2.toInt = zn.toInt + 1 := v_add ex_2 (by show -2147483648 ≤ zn.toInt + 1; omega) (by show zn.toInt + 1 < 2147483648; omega)
  refine va_put (D := (dC, dI)) (ci := 12) (v := .int x_2) (ty := .int) (C := RX12) (T := TX12) (N := 40) hx hb hts in_X12 tyX12 tyX12_ok nmX12 hown hK hP hD hS 0 rfl rfl 27 (by decide) (hts (.fieldLink RX12 91 "TextMenderModel" "byteMany" "I") (List.mem_of_getElem? (i := 2) rfl)) (fun _ h9 => h9) rfl (by decide +kernel) rfl rfl (Nat.le_of_ble_eq_true rfl) dX12_put_17 (fun H locs hPn hDn hSn => ?_)
  clear hP hD hS
  have hP : va_P (dC, dI) vwCl [(oM, .inr (12, [.ref mT, .int zt, .ref mS, .ref mX, .int zp, .int zf, .ref mL, .ref mB, .ref mD, .ref m1, .ref m2, .int zh, .ref mR, .int zr, .ref x1, .ref x2, .ref x3, .int zc, .ref mH, .int zy, .int za, .int zb, .int zs, .int zq, .int zw, .int ze, .ref mY, .int x_2, .ref mE, .int zm, .int zl, .ref mW, .int zk, .ref mO, .int zd, .ref y1, .ref y2, .ref y3, .ref y4, .ref mZ])), (mY, .inl (cI, 2600, .inl f_1))] H := hPn
  have hD : va_D A [(oM, .inr (12, [.ref mT, .int zt, .ref mS, .ref mX, .int zp, .int zf, .ref mL, .ref mB, .ref mD, .ref m1, .ref m2, .int zh, .ref mR, .int zr, .ref x1, .ref x2, .ref x3, .int zc, .ref mH, .int zy, .int za, .int zb, .int zs, .int zq, .int zw, .int ze, .ref mY, .int x_2, .ref mE, .int zm, .int zl, .ref mW, .int zk, .ref mO, .int zd, .ref y1, .ref y2, .ref y3, .ref y4, .ref mZ])), (mY, .inl (cI, 2600, .inl f_1))] := hDn
  have hS := hSn
  clear hPn hDn hSn
  have hP9 := hP.sub (ws' := [(oM, .inr (12, [.ref mT, .int zt, .ref mS, .ref mX, .int zp, .int zf, .ref mL, .ref mB, .ref mD, .ref m1, .ref m2, .int zh, .ref mR, .int zr, .ref x1, .ref x2, .ref x3, .int zc, .ref mH, .int zy, .int za, .int zb, .int zs, .int zq, .int zw, .int ze, .ref mY, .int x_2, .ref mE, .int zm, .int zl, .ref mW, .int zk, .ref mO, .int zd, .ref y1, .ref y2, .ref y3, .ref y4, .ref mZ])), (mY, .inl (cI, 2600, .inl f_1))]) [0, 1] rfl
  have hD9 := hD.sub (ws' := [(oM, .inr (12, [.ref mT, .int zt, .ref mS, .ref mX, .int zp, .int zf, .ref mL, .ref mB, .ref mD, .ref m1, .ref m2, .int zh, .ref mR, .int zr, .ref x1, .ref x2, .ref x3, .int zc, .ref mH, .int zy, .int za, .int zb, .int zs, .int zq, .int zw, .int ze, .ref mY, .int x_2, .ref mE, .int zm, .int zl, .ref mW, .int zk, .ref mO, .int zd, .ref y1, .ref y2, .ref y3, .ref y4, .ref mZ])), (mY, .inl (cI, 2600, .inl f_1))]) [0, 1] (by decide +kernel) rfl
  rw [hQQ]
  exact W.vret hx hb hr (fun t ht hW => ⟨⟨(), rfl, trivial, ⟨x_2, f_1, by rw [ht]; exact hP9, hD9, by omega, g_f1, by show x_2.toInt = zn.toInt + 1; omega⟩⟩, hS.F ht⟩) hS.2.2 dX12_put_20

set_option maxHeartbeats 40000000 in
set_option maxRecDepth 100000 in
theorem m_X12_writeLetter (l : Launch) (dC : Nat → ClassId) (dI : Nat → Nat → Nat) (cI cS : ClassId) (sz : Nat) (oM : Nat) (mT : Nat) (mS : Nat) (mX : Nat) (mL : Nat) (mB : Nat) (mD : Nat) (m1 : Nat) (m2 : Nat) (mR : Nat) (x1 : Nat) (x2 : Nat) (x3 : Nat) (mH : Nat) (mY : Nat) (mE : Nat) (mW : Nat) (mO : Nat) (y1 : Nat) (y2 : Nat) (y3 : Nat) (y4 : Nat) (mZ : Nat) (zt : Int32) (zp : Int32) (zf : Int32) (zh : Int32) (zr : Int32) (zc : Int32) (zy : Int32) (za : Int32) (zb : Int32) (zs : Int32) (zq : Int32) (zw : Int32) (ze : Int32) (zn : Int32) (zm : Int32) (zl : Int32) (zk : Int32) (zd : Int32) (eY : Nat → Int32) (eB : Nat → Int32) (cd : Int32) (x : Int32) (g_zt : 0 ≤ zt.toInt ∧ zt.toInt ≤ 900) (g_zp : 0 ≤ zp.toInt ∧ zp.toInt ≤ 20) (g_zf : 0 ≤ zf.toInt ∧ zf.toInt ≤ 19) (g_zh : 0 ≤ zh.toInt ∧ zh.toInt ≤ 6) (g_zr : 0 ≤ zr.toInt ∧ zr.toInt ≤ 258) (g_zc : 0 ≤ zc.toInt ∧ zc.toInt ≤ 300) (g_zy : 0 ≤ zy.toInt ∧ zy.toInt ≤ 65536) (g_za : 0 ≤ za.toInt ∧ za.toInt ≤ 5) (g_zb : 0 ≤ zb.toInt ∧ zb.toInt ≤ 5) (g_zs : 0 ≤ zs.toInt ∧ zs.toInt ≤ 2000000) (g_zq : -1 ≤ zq.toInt ∧ zq.toInt ≤ 2000000) (g_zn : 0 ≤ zn.toInt ∧ zn.toInt ≤ 2600) (g_zm : 0 ≤ zm.toInt ∧ zm.toInt ≤ 2600) (g_zk : 0 ≤ zk.toInt ∧ zk.toInt ≤ 300) (g_eY : rg 0 255 eY) (g_eB : rg (-1) 255 eB) (g_cd : 0 ≤ cd.toInt ∧ cd.toInt ≤ 5) (g_x : 0 ≤ x.toInt ∧ x.toInt ≤ 65535) (hzn : zn.toInt ≤ 2592) : Met l yX12_writeLetter wsX12_writeLetter ({ frames := 1, cells := 0, slots := 0, locals := 21 } : Room) (va_Pc [.ref oM, .int cd, .int x] (fun U => U.heap.size = sz ∧ va_P (dC, dI) vwCl [(oM, .inr (12, [.ref mT, .int zt, .ref mS, .ref mX, .int zp, .int zf, .ref mL, .ref mB, .ref mD, .ref m1, .ref m2, .int zh, .ref mR, .int zr, .ref x1, .ref x2, .ref x3, .int zc, .ref mH, .int zy, .int za, .int zb, .int zs, .int zq, .int zw, .int ze, .ref mY, .int zn, .ref mE, .int zm, .int zl, .ref mW, .int zk, .ref mO, .int zd, .ref y1, .ref y2, .ref y3, .ref y4, .ref mZ])), (mY, .inl (cI, 2600, .inl eY)), (mB, .inl (cS, 131072, .inl eB))] U.heap ∧ va_K (dC, dI) vwCl [(cI, .int), (cS, .short)] U ∧ va_D (fun _ => True) [(oM, .inr (12, [.ref mT, .int zt, .ref mS, .ref mX, .int zp, .int zf, .ref mL, .ref mB, .ref mD, .ref m1, .ref m2, .int zh, .ref mR, .int zr, .ref x1, .ref x2, .ref x3, .int zc, .ref mH, .int zy, .int za, .int zb, .int zs, .int zq, .int zw, .int ze, .ref mY, .int zn, .ref mE, .int zm, .int zl, .ref mW, .int zk, .ref mO, .int zd, .ref y1, .ref y2, .ref y3, .ref y4, .ref mZ])), (mY, .inl (cI, 2600, .inl eY)), (mB, .inl (cS, 131072, .inl eB))])) (va_Qi (fun (r : Int32) (u : Int32) => r = u) (fun (r : Int32) t => ∃ (zn' : Int32) (eY' : Nat → Int32), va_P (dC, dI) vwCl [(oM, .inr (12, [.ref mT, .int zt, .ref mS, .ref mX, .int zp, .int zf, .ref mL, .ref mB, .ref mD, .ref m1, .ref m2, .int zh, .ref mR, .int zr, .ref x1, .ref x2, .ref x3, .int zc, .ref mH, .int zy, .int za, .int zb, .int zs, .int zq, .int zw, .int ze, .ref mY, .int zn', .ref mE, .int zm, .int zl, .ref mW, .int zk, .ref mO, .int zd, .ref y1, .ref y2, .ref y3, .ref y4, .ref mZ])), (mY, .inl (cI, 2600, .inl eY')), (mB, .inl (cS, 131072, .inl eB))] t.heap ∧ va_D (va_A [(oM, .inr (12, [.ref mT, .int zt, .ref mS, .ref mX, .int zp, .int zf, .ref mL, .ref mB, .ref mD, .ref m1, .ref m2, .int zh, .ref mR, .int zr, .ref x1, .ref x2, .ref x3, .int zc, .ref mH, .int zy, .int za, .int zb, .int zs, .int zq, .int zw, .int ze, .ref mY, .int zn, .ref mE, .int zm, .int zl, .ref mW, .int zk, .ref mO, .int zd, .ref y1, .ref y2, .ref y3, .ref y4, .ref mZ])), (mY, .inl (cI, 2600, .inl eY)), (mB, .inl (cS, 131072, .inl eB))] sz) [(oM, .inr (12, [.ref mT, .int zt, .ref mS, .ref mX, .int zp, .int zf, .ref mL, .ref mB, .ref mD, .ref m1, .ref m2, .int zh, .ref mR, .int zr, .ref x1, .ref x2, .ref x3, .int zc, .ref mH, .int zy, .int za, .int zb, .int zs, .int zq, .int zw, .int ze, .ref mY, .int zn', .ref mE, .int zm, .int zl, .ref mW, .int zk, .ref mO, .int zd, .ref y1, .ref y2, .ref y3, .ref y4, .ref mZ])), (mY, .inl (cI, 2600, .inl eY')), (mB, .inl (cS, 131072, .inl eB))] ∧ (0 ≤ zn'.toInt ∧ zn'.toInt ≤ 2600) ∧ (rg 0 255 eY') ∧ (0 ≤ r.toInt ∧ r.toInt ≤ 1) ∧ (zn'.toInt ≤ zn.toInt + 8)) (va_A [(oM, .inr (12, [.ref mT, .int zt, .ref mS, .ref mX, .int zp, .int zf, .ref mL, .ref mB, .ref mD, .ref m1, .ref m2, .int zh, .ref mR, .int zr, .ref x1, .ref x2, .ref x3, .int zc, .ref mH, .int zy, .int za, .int zb, .int zs, .int zq, .int zw, .int ze, .ref mY, .int zn, .ref mE, .int zm, .int zl, .ref mW, .int zk, .ref mO, .int zd, .ref y1, .ref y2, .ref y3, .ref y4, .ref mZ])), (mY, .inl (cI, 2600, .inl eY)), (mB, .inl (cS, 131072, .inl eB))] sz)) 0 0 (va_A [(oM, .inr (12, [.ref mT, .int zt, .ref mS, .ref mX, .int zp, .int zf, .ref mL, .ref mB, .ref mD, .ref m1, .ref m2, .int zh, .ref mR, .int zr, .ref x1, .ref x2, .ref x3, .int zc, .ref mH, .int zy, .int za, .int zb, .int zs, .int zq, .int zw, .int ze, .ref mY, .int zn, .ref mE, .int zm, .int zl, .ref mW, .int zk, .ref mO, .int zd, .ref y1, .ref y2, .ref y3, .ref y4, .ref mZ])), (mY, .inl (cI, 2600, .inl eY)), (mB, .inl (cS, 131072, .inl eB))] sz) := by
  refine Met.ofW (cc := cX12_writeLetter) (maxL := 4) (ret := (some .boolean)) (by decide) rfl ?_
  intro p e s m args below meth c s₁ B hml hv
  obtain ⟨rfl, hsz, hP, hK, hD0⟩ := hv
  have hx := B.exec
  have hb := B.bytes
  have hr := B.returns
  have hts := atoms_spec (ws := wsX12_writeLetter) B.pre
  have hown : s.vm.findClass RX12 = some m.cls := findClass_of_methodNamed B.named
  have hlocks := B.notSynchronized
  have in_X12 : ∀ w ∈ wsX120, w ∈ wsX12_writeLetter := fun _ h => List.mem_cons_of_mem _ (List.mem_append_right _ (h))
  subst hsz
  have hD := hD0.self (sz := s.heap.size)
  generalize hAe : va_A [(oM, .inr (12, [.ref mT, .int zt, .ref mS, .ref mX, .int zp, .int zf, .ref mL, .ref mB, .ref mD, .ref m1, .ref m2, .int zh, .ref mR, .int zr, .ref x1, .ref x2, .ref x3, .int zc, .ref mH, .int zy, .int za, .int zb, .int zs, .int zq, .int zw, .int ze, .ref mY, .int zn, .ref mE, .int zm, .int zl, .ref mW, .int zk, .ref mO, .int zd, .ref y1, .ref y2, .ref y3, .ref y4, .ref mZ])), (mY, .inl (cI, 2600, .inl eY)), (mB, .inl (cS, 131072, .inl eB))] s.heap.size = A at hD ⊢
  have hA : ∀ q : Nat, s.heap.size ≤ q → A q := fun q h => by rw [← hAe]; exact Or.inr h
  have hS : va_S A s.heap s.heap [] := va_S.rf
  have hP : va_P (dC, dI) vwCl [(oM, .inr (12, [.ref mT, .int zt, .ref mS, .ref mX, .int zp, .int zf, .ref mL, .ref mB, .ref mD, .ref m1, .ref m2, .int zh, .ref mR, .int zr, .ref x1, .ref x2, .ref x3, .int zc, .ref mH, .int zy, .int za, .int zb, .int zs, .int zq, .int zw, .int ze, .ref mY, .int zn, .ref mE, .int zm, .int zl, .ref mW, .int zk, .ref mO, .int zd, .ref y1, .ref y2, .ref y3, .ref y4, .ref mZ])), (mY, .inl (cI, 2600, .inl eY)), (mB, .inl (cS, 131072, .inl eB))] s.heap := hP
  have hl := lv_entry ([.ref oM, .int cd, .int x]) (n := 4) (Nat.le_of_ble_eq_true rfl)
  rw [lg_entry_eq]
  generalize (lg_sl ([.ref oM, .int cd, .int x]) ++ List.replicate (4 - (lg_sl ([.ref oM, .int cd, .int x])).length) Slot.unset).toArray = ls at hl ⊢
  have hl : lv_has ls 4 [(0, .ref oM), (1, .int cd), (2, .int x)] := hl
  obtain ⟨QQ, hQQ⟩ : ∃ QQ : Array Value → State → Outcome → State → Prop, QQ = va_Qi (fun (r : Int32) (u : Int32) => r = u) (fun (r : Int32) t => ∃ (zn' : Int32) (eY' : Nat → Int32), va_P (dC, dI) vwCl [(oM, .inr (12, [.ref mT, .int zt, .ref mS, .ref mX, .int zp, .int zf, .ref mL, .ref mB, .ref mD, .ref m1, .ref m2, .int zh, .ref mR, .int zr, .ref x1, .ref x2, .ref x3, .int zc, .ref mH, .int zy, .int za, .int zb, .int zs, .int zq, .int zw, .int ze, .ref mY, .int zn', .ref mE, .int zm, .int zl, .ref mW, .int zk, .ref mO, .int zd, .ref y1, .ref y2, .ref y3, .ref y4, .ref mZ])), (mY, .inl (cI, 2600, .inl eY')), (mB, .inl (cS, 131072, .inl eB))] t.heap ∧ va_D A [(oM, .inr (12, [.ref mT, .int zt, .ref mS, .ref mX, .int zp, .int zf, .ref mL, .ref mB, .ref mD, .ref m1, .ref m2, .int zh, .ref mR, .int zr, .ref x1, .ref x2, .ref x3, .int zc, .ref mH, .int zy, .int za, .int zb, .int zs, .int zq, .int zw, .int ze, .ref mY, .int zn', .ref mE, .int zm, .int zl, .ref mW, .int zk, .ref mO, .int zd, .ref y1, .ref y2, .ref y3, .ref y4, .ref mZ])), (mY, .inl (cI, 2600, .inl eY')), (mB, .inl (cS, 131072, .inl eB))] ∧ (0 ≤ zn'.toInt ∧ zn'.toInt ≤ 2600) ∧ (rg 0 255 eY') ∧ (0 ≤ r.toInt ∧ r.toInt ≤ 1) ∧ (zn'.toInt ≤ zn.toInt + 8)) A := ⟨_, rfl⟩
  rw [← hQQ]
  refine lv_iload_n hx hb dX12_writeLetter_0 rfl (lv_at hl 1 rfl) ?_
  refine lv_iconst (v := 2) hx hb dX12_writeLetter_1 (by decide) ?_
  refine lv_icmp_ge (tgt := 31) hx hb dX12_writeLetter_2 (by decide) (fun c_1 => ?_) (fun c_1 => ?_)
  · have tc_1 : 2 ≤ cd.toInt := v_le c_1
    refine lv_iload_n hx hb dX12_writeLetter_31 rfl (lv_at hl 1 rfl) ?_
    refine lv_iconst (v := 2) hx hb dX12_writeLetter_32 (by decide) ?_
    refine lv_icmp_ne (tgt := 128) hx hb dX12_writeLetter_33 (by decide) (fun c_2 => ?_) (fun c_2 => ?_)
    · have tc_2 : ¬ cd.toInt = 2 := v_ne c_2
      refine lv_iload_n hx hb dX12_writeLetter_128 rfl (lv_at hl 1 rfl) ?_
      refine lv_iconst (v := 3) hx hb dX12_writeLetter_129 (by decide) ?_
      refine lv_icmp_ne (tgt := 218) hx hb dX12_writeLetter_130 (by decide) (fun c_3 => ?_) (fun c_3 => ?_)
      · have tc_3 : ¬ cd.toInt = 3 := v_ne c_3
        refine lv_aload_n hx hb dX12_writeLetter_218 rfl (lv_at hl 0 rfl) ?_
        refine va_get (D := (dC, dI)) (ci := 12) (v := .ref mB) (C := RX12) (T := TX12) (N := 40) hx hb hts in_X12 hown hK hP 0 rfl rfl 7 (by decide) (hts (.fieldLink RX12 23 "TextMenderModel" "byteOfLetter" "[S") (List.mem_of_getElem? (i := 1) rfl)) (fun _ h9 => h9) rfl dX12_writeLetter_219 ?_
        refine lv_ldc hx hb hown (hts (.constant RX12 88 (65536)) (List.mem_of_getElem? (i := 2) rfl)) dX12_writeLetter_222 ?_
        refine lv_iload_n hx hb dX12_writeLetter_224 rfl (lv_at hl 1 rfl) ?_
        refine lv_iconst (v := 4) hx hb dX12_writeLetter_225 (by decide) ?_
        refine lv_isub hx hb dX12_writeLetter_226 ?_
        refine lv_topi (fun x_4 ex_4 => ?_)
        have tx_4 : x_4.toInt = cd.toInt - 4 := v_sub ex_4 (by show -2147483648 ≤ cd.toInt - 4; omega) (by show cd.toInt - 4 < 2147483648; omega)
        refine lv_imul hx hb dX12_writeLetter_227 ?_
        refine lv_topi (fun x_5 ex_5 => ?_)
        have tx_5 : x_5.toInt = 65536 * x_4.toInt := v_mul ex_5 (by show -2147483648 ≤ 65536 * x_4.toInt; omega) (by show 65536 * x_4.toInt < 2147483648; omega)
        refine lv_iload_n hx hb dX12_writeLetter_228 rfl (lv_at hl 2 rfl) ?_
        refine lv_iadd hx hb dX12_writeLetter_229 ?_
        refine lv_topi (fun x_6 ex_6 => ?_)
        have tx_6 : x_6.toInt = x_5.toInt + x.toInt := v_add ex_6 (by show -2147483648 ≤ x_5.toInt + x.toInt; omega) (by show x_5.toInt + x.toInt < 2147483648; omega)
        refine va_sald hx hb hK hP 2 1 rfl rfl (v_in (by omega)) dX12_writeLetter_230 ?_
        refine lv_topi (fun x_7 ex_7 => ?_)
        have tx_7 : -1 ≤ x_7.toInt ∧ x_7.toInt ≤ 255 := rg_at g_eB ex_7
        refine lv_istore_n (lv' := [(3, .int x_7), (0, .ref oM), (1, .int cd), (2, .int x)]) hx hb dX12_writeLetter_231 rfl hl (by decide) rfl (fun ls hl => ?_)
        refine lv_iload_n hx hb dX12_writeLetter_232 rfl (lv_at hl 0 rfl) ?_
        refine lv_iconst (v := (-1)) hx hb dX12_writeLetter_233 (by decide) ?_
        refine lv_icmp_ne (tgt := 239) hx hb dX12_writeLetter_234 (by decide) (fun c_8 => ?_) (fun c_8 => ?_)
        · have tc_8 : ¬ x_7.toInt = (-1) := v_ne c_8
          refine lv_aload_n hx hb dX12_writeLetter_239 rfl (lv_at hl 1 rfl) ?_
          refine lv_iload_n hx hb dX12_writeLetter_240 rfl (lv_at hl 0 rfl) ?_
          have hPc := hP.sub (ws' := [(oM, .inr (12, [.ref mT, .int zt, .ref mS, .ref mX, .int zp, .int zf, .ref mL, .ref mB, .ref mD, .ref m1, .ref m2, .int zh, .ref mR, .int zr, .ref x1, .ref x2, .ref x3, .int zc, .ref mH, .int zy, .int za, .int zb, .int zs, .int zq, .int zw, .int ze, .ref mY, .int zn, .ref mE, .int zm, .int zl, .ref mW, .int zk, .ref mO, .int zd, .ref y1, .ref y2, .ref y3, .ref y4, .ref mZ])), (mY, .inl (cI, 2600, .inl eY))]) [0, 1] rfl
          have hDc := hD.sub (ws' := [(oM, .inr (12, [.ref mT, .int zt, .ref mS, .ref mX, .int zp, .int zf, .ref mL, .ref mB, .ref mD, .ref m1, .ref m2, .int zh, .ref mR, .int zr, .ref x1, .ref x2, .ref x3, .int zc, .ref mH, .int zy, .int za, .int zb, .int zs, .int zq, .int zw, .int ze, .ref mY, .int zn, .ref mE, .int zm, .int zl, .ref mW, .int zk, .ref mO, .int zd, .ref y1, .ref y2, .ref y3, .ref y4, .ref mZ])), (mY, .inl (cI, 2600, .inl eY))]) [0, 1] (by decide +kernel) rfl
          have hFc := va_free (wc := [(oM, .inr (12, [.ref mT, .int zt, .ref mS, .ref mX, .int zp, .int zf, .ref mL, .ref mB, .ref mD, .ref m1, .ref m2, .int zh, .ref mR, .int zr, .ref x1, .ref x2, .ref x3, .int zc, .ref mH, .int zy, .int za, .int zb, .int zs, .int zq, .int zw, .int ze, .ref mY, .int zn, .ref mE, .int zm, .int zl, .ref mW, .int zk, .ref mO, .int zd, .ref y1, .ref y2, .ref y3, .ref y4, .ref mZ])), (mY, .inl (cI, 2600, .inl eY))]) hD hS hA [0, 1] rfl
          refine va_callv (va_runV (As := [.int x_7]) (rest := []) ⟨hx, hb, hml, hown, hts⟩ (m_X12_put l dC dI cI cS s.heap.size oM mT mS mX mL mB mD m1 m2 mR x1 x2 x3 mH mY mE mW mO y1 y2 y3 y4 mZ zt zp zf zh zr zc zy za zb zs zq zw ze zn zm zl zk zd eY x_7 (g_zt) (g_zp) (g_zf) (g_zh) (g_zr) (g_zc) (g_zy) (g_za) (g_zb) (g_zs) (g_zq) (g_zn) (g_zm) (g_zk) (g_eY) (by omega) (by omega)) (cwV 1 hts gX12_writeLetter_X12_put rfl rfl rfl (by decide +kernel) ⟨Nat.le_of_ble_eq_true rfl, Nat.le_of_ble_eq_true rfl⟩) ⟨fun a U g mk q => by obtain ⟨q0, q1, qP, qK, qD⟩ := q; exact ⟨q0, q1, qP, va_K.moved (u := U) (U := U.calling g mk a) (Vm.Alike.refl U.vm) qK, qD⟩, va_recv hK hPc (ci := 12) (q0 := 0) rfl rfl, fun U hU hW => ⟨rfl, by rw [hU], by rw [hU]; exact hPc, va_K.moved hW.alike hK, hDc.weaken (fun _ _ _ _ => trivial)⟩⟩ rfl rfl hl.1 rfl (lv_room (Nat.le_of_ble_eq_true rfl)) dX12_writeLetter_241 ⟨Nat.le_of_ble_eq_true rfl, Nat.le_of_ble_eq_true rfl⟩) hS (fun q _ h => hFc q h) hFc (fun u t H1 locs ht hvm hw hB hz1 hk1 hSn => ?_)
          obtain ⟨zn_9, eY_9, hP1, hD1, hf9_0, hf9_1, hf9_2⟩ := hB
          rw [ht] at hP1
          obtain ⟨hPn, hDn⟩ := va_join (wr := [(mB, .inl (cS, 131072, .inl eB))]) (w1 := [(oM, .inr (12, [.ref mT, .int zt, .ref mS, .ref mX, .int zp, .int zf, .ref mL, .ref mB, .ref mD, .ref m1, .ref m2, .int zh, .ref mR, .int zr, .ref x1, .ref x2, .ref x3, .int zc, .ref mH, .int zy, .int za, .int zb, .int zs, .int zq, .int zw, .int ze, .ref mY, .int zn_9, .ref mE, .int zm, .int zl, .ref mW, .int zk, .ref mO, .int zd, .ref y1, .ref y2, .ref y3, .ref y4, .ref mZ])), (mY, .inl (cI, 2600, .inl eY_9))]) hP hD [0, 1] [2] rfl rfl (by decide +kernel) (by decide +kernel) hk1 hFc hP1 hD1
          clear hP hD hS hPc hDc hFc hk1 hz1 hvm ht hP1 hD1
          generalize H1 = H at hPn hSn ⊢
          have hP : va_P (dC, dI) vwCl [(mB, .inl (cS, 131072, .inl eB)), (oM, .inr (12, [.ref mT, .int zt, .ref mS, .ref mX, .int zp, .int zf, .ref mL, .ref mB, .ref mD, .ref m1, .ref m2, .int zh, .ref mR, .int zr, .ref x1, .ref x2, .ref x3, .int zc, .ref mH, .int zy, .int za, .int zb, .int zs, .int zq, .int zw, .int ze, .ref mY, .int zn_9, .ref mE, .int zm, .int zl, .ref mW, .int zk, .ref mO, .int zd, .ref y1, .ref y2, .ref y3, .ref y4, .ref mZ])), (mY, .inl (cI, 2600, .inl eY_9))] H := hPn
          have hD : va_D A [(mB, .inl (cS, 131072, .inl eB)), (oM, .inr (12, [.ref mT, .int zt, .ref mS, .ref mX, .int zp, .int zf, .ref mL, .ref mB, .ref mD, .ref m1, .ref m2, .int zh, .ref mR, .int zr, .ref x1, .ref x2, .ref x3, .int zc, .ref mH, .int zy, .int za, .int zb, .int zs, .int zq, .int zw, .int ze, .ref mY, .int zn_9, .ref mE, .int zm, .int zl, .ref mW, .int zk, .ref mO, .int zd, .ref y1, .ref y2, .ref y3, .ref y4, .ref mZ])), (mY, .inl (cI, 2600, .inl eY_9))] := hDn
          have hS := hSn
          clear hPn hDn hSn
          refine lv_iconst (v := 1) hx hb dX12_writeLetter_244 (by decide) ?_
          have hP9 := hP.sub (ws' := [(oM, .inr (12, [.ref mT, .int zt, .ref mS, .ref mX, .int zp, .int zf, .ref mL, .ref mB, .ref mD, .ref m1, .ref m2, .int zh, .ref mR, .int zr, .ref x1, .ref x2, .ref x3, .int zc, .ref mH, .int zy, .int za, .int zb, .int zs, .int zq, .int zw, .int ze, .ref mY, .int zn_9, .ref mE, .int zm, .int zl, .ref mW, .int zk, .ref mO, .int zd, .ref y1, .ref y2, .ref y3, .ref y4, .ref mZ])), (mY, .inl (cI, 2600, .inl eY_9)), (mB, .inl (cS, 131072, .inl eB))]) [1, 2, 0] rfl
          have hD9 := hD.sub (ws' := [(oM, .inr (12, [.ref mT, .int zt, .ref mS, .ref mX, .int zp, .int zf, .ref mL, .ref mB, .ref mD, .ref m1, .ref m2, .int zh, .ref mR, .int zr, .ref x1, .ref x2, .ref x3, .int zc, .ref mH, .int zy, .int za, .int zb, .int zs, .int zq, .int zw, .int ze, .ref mY, .int zn_9, .ref mE, .int zm, .int zl, .ref mW, .int zk, .ref mO, .int zd, .ref y1, .ref y2, .ref y3, .ref y4, .ref mZ])), (mY, .inl (cI, 2600, .inl eY_9)), (mB, .inl (cS, 131072, .inl eB))]) [1, 2, 0] (by decide +kernel) rfl
          rw [hQQ]
          exact W.zret (v := 1) (ty := .boolean) hx hb hr (rfl) (fun t ht hW => ⟨⟨1, 1, rfl, rfl, ⟨zn_9, eY_9, by rw [ht]; exact hP9, hD9, hf9_0, hf9_1, by decide, by show zn_9.toInt ≤ zn.toInt + 8; omega⟩⟩, hS.F ht⟩) hS.2.2 dX12_writeLetter_245
        · have tc_8 : x_7.toInt = (-1) := v_eq c_8
          refine lv_iconst (v := 0) hx hb dX12_writeLetter_237 (by decide) ?_
          have hP9 := hP.sub (ws' := [(oM, .inr (12, [.ref mT, .int zt, .ref mS, .ref mX, .int zp, .int zf, .ref mL, .ref mB, .ref mD, .ref m1, .ref m2, .int zh, .ref mR, .int zr, .ref x1, .ref x2, .ref x3, .int zc, .ref mH, .int zy, .int za, .int zb, .int zs, .int zq, .int zw, .int ze, .ref mY, .int zn, .ref mE, .int zm, .int zl, .ref mW, .int zk, .ref mO, .int zd, .ref y1, .ref y2, .ref y3, .ref y4, .ref mZ])), (mY, .inl (cI, 2600, .inl eY)), (mB, .inl (cS, 131072, .inl eB))]) [0, 1, 2] rfl
          have hD9 := hD.sub (ws' := [(oM, .inr (12, [.ref mT, .int zt, .ref mS, .ref mX, .int zp, .int zf, .ref mL, .ref mB, .ref mD, .ref m1, .ref m2, .int zh, .ref mR, .int zr, .ref x1, .ref x2, .ref x3, .int zc, .ref mH, .int zy, .int za, .int zb, .int zs, .int zq, .int zw, .int ze, .ref mY, .int zn, .ref mE, .int zm, .int zl, .ref mW, .int zk, .ref mO, .int zd, .ref y1, .ref y2, .ref y3, .ref y4, .ref mZ])), (mY, .inl (cI, 2600, .inl eY)), (mB, .inl (cS, 131072, .inl eB))]) [0, 1, 2] (by decide +kernel) rfl
          rw [hQQ]
          exact W.zret (v := 0) (ty := .boolean) hx hb hr (rfl) (fun t ht hW => ⟨⟨0, 0, rfl, rfl, ⟨zn, eY, by rw [ht]; exact hP9, hD9, g_zn, g_eY, by decide, by show zn.toInt ≤ zn.toInt + 8; omega⟩⟩, hS.F ht⟩) hS.2.2 dX12_writeLetter_238
      · have tc_3 : cd.toInt = 3 := v_eq c_3
        refine lv_iload_n hx hb dX12_writeLetter_133 rfl (lv_at hl 2 rfl) ?_
        refine lv_sipush (v := 128) hx hb dX12_writeLetter_134 (by decide) ?_
        refine lv_icmp_ge (tgt := 154) hx hb dX12_writeLetter_137 (by decide) (fun c_10 => ?_) (fun c_10 => ?_)
        · have tc_10 : 128 ≤ x.toInt := v_le c_10
          refine lv_aload_n hx hb dX12_writeLetter_154 rfl (lv_at hl 0 rfl) ?_
          refine lv_bipush (v := 38) hx hb dX12_writeLetter_155 (by decide) ?_
          have hPc := hP.sub (ws' := [(oM, .inr (12, [.ref mT, .int zt, .ref mS, .ref mX, .int zp, .int zf, .ref mL, .ref mB, .ref mD, .ref m1, .ref m2, .int zh, .ref mR, .int zr, .ref x1, .ref x2, .ref x3, .int zc, .ref mH, .int zy, .int za, .int zb, .int zs, .int zq, .int zw, .int ze, .ref mY, .int zn, .ref mE, .int zm, .int zl, .ref mW, .int zk, .ref mO, .int zd, .ref y1, .ref y2, .ref y3, .ref y4, .ref mZ])), (mY, .inl (cI, 2600, .inl eY))]) [0, 1] rfl
          have hDc := hD.sub (ws' := [(oM, .inr (12, [.ref mT, .int zt, .ref mS, .ref mX, .int zp, .int zf, .ref mL, .ref mB, .ref mD, .ref m1, .ref m2, .int zh, .ref mR, .int zr, .ref x1, .ref x2, .ref x3, .int zc, .ref mH, .int zy, .int za, .int zb, .int zs, .int zq, .int zw, .int ze, .ref mY, .int zn, .ref mE, .int zm, .int zl, .ref mW, .int zk, .ref mO, .int zd, .ref y1, .ref y2, .ref y3, .ref y4, .ref mZ])), (mY, .inl (cI, 2600, .inl eY))]) [0, 1] (by decide +kernel) rfl
          have hFc := va_free (wc := [(oM, .inr (12, [.ref mT, .int zt, .ref mS, .ref mX, .int zp, .int zf, .ref mL, .ref mB, .ref mD, .ref m1, .ref m2, .int zh, .ref mR, .int zr, .ref x1, .ref x2, .ref x3, .int zc, .ref mH, .int zy, .int za, .int zb, .int zs, .int zq, .int zw, .int ze, .ref mY, .int zn, .ref mE, .int zm, .int zl, .ref mW, .int zk, .ref mO, .int zd, .ref y1, .ref y2, .ref y3, .ref y4, .ref mZ])), (mY, .inl (cI, 2600, .inl eY))]) hD hS hA [0, 1] rfl
          refine va_callv (va_runV (As := [.int 38]) (rest := []) ⟨hx, hb, hml, hown, hts⟩ (m_X12_put l dC dI cI cS s.heap.size oM mT mS mX mL mB mD m1 m2 mR x1 x2 x3 mH mY mE mW mO y1 y2 y3 y4 mZ zt zp zf zh zr zc zy za zb zs zq zw ze zn zm zl zk zd eY 38 (g_zt) (g_zp) (g_zf) (g_zh) (g_zr) (g_zc) (g_zy) (g_za) (g_zb) (g_zs) (g_zq) (g_zn) (g_zm) (g_zk) (g_eY) (by decide) (by omega)) (cwV 1 hts gX12_writeLetter_X12_put rfl rfl rfl (by decide +kernel) ⟨Nat.le_of_ble_eq_true rfl, Nat.le_of_ble_eq_true rfl⟩) ⟨fun a U g mk q => by obtain ⟨q0, q1, qP, qK, qD⟩ := q; exact ⟨q0, q1, qP, va_K.moved (u := U) (U := U.calling g mk a) (Vm.Alike.refl U.vm) qK, qD⟩, va_recv hK hPc (ci := 12) (q0 := 0) rfl rfl, fun U hU hW => ⟨rfl, by rw [hU], by rw [hU]; exact hPc, va_K.moved hW.alike hK, hDc.weaken (fun _ _ _ _ => trivial)⟩⟩ rfl rfl hl.1 rfl (lv_room (Nat.le_of_ble_eq_true rfl)) dX12_writeLetter_157 ⟨Nat.le_of_ble_eq_true rfl, Nat.le_of_ble_eq_true rfl⟩) hS (fun q _ h => hFc q h) hFc (fun u t H1 locs ht hvm hw hB hz1 hk1 hSn => ?_)
          obtain ⟨zn_11, eY_11, hP1, hD1, hf11_0, hf11_1, hf11_2⟩ := hB
          rw [ht] at hP1
          obtain ⟨hPn, hDn⟩ := va_join (wr := [(mB, .inl (cS, 131072, .inl eB))]) (w1 := [(oM, .inr (12, [.ref mT, .int zt, .ref mS, .ref mX, .int zp, .int zf, .ref mL, .ref mB, .ref mD, .ref m1, .ref m2, .int zh, .ref mR, .int zr, .ref x1, .ref x2, .ref x3, .int zc, .ref mH, .int zy, .int za, .int zb, .int zs, .int zq, .int zw, .int ze, .ref mY, .int zn_11, .ref mE, .int zm, .int zl, .ref mW, .int zk, .ref mO, .int zd, .ref y1, .ref y2, .ref y3, .ref y4, .ref mZ])), (mY, .inl (cI, 2600, .inl eY_11))]) hP hD [0, 1] [2] rfl rfl (by decide +kernel) (by decide +kernel) hk1 hFc hP1 hD1
          clear hP hD hS hPc hDc hFc hk1 hz1 hvm ht hP1 hD1
          generalize H1 = H at hPn hSn ⊢
          have hP : va_P (dC, dI) vwCl [(mB, .inl (cS, 131072, .inl eB)), (oM, .inr (12, [.ref mT, .int zt, .ref mS, .ref mX, .int zp, .int zf, .ref mL, .ref mB, .ref mD, .ref m1, .ref m2, .int zh, .ref mR, .int zr, .ref x1, .ref x2, .ref x3, .int zc, .ref mH, .int zy, .int za, .int zb, .int zs, .int zq, .int zw, .int ze, .ref mY, .int zn_11, .ref mE, .int zm, .int zl, .ref mW, .int zk, .ref mO, .int zd, .ref y1, .ref y2, .ref y3, .ref y4, .ref mZ])), (mY, .inl (cI, 2600, .inl eY_11))] H := hPn
          have hD : va_D A [(mB, .inl (cS, 131072, .inl eB)), (oM, .inr (12, [.ref mT, .int zt, .ref mS, .ref mX, .int zp, .int zf, .ref mL, .ref mB, .ref mD, .ref m1, .ref m2, .int zh, .ref mR, .int zr, .ref x1, .ref x2, .ref x3, .int zc, .ref mH, .int zy, .int za, .int zb, .int zs, .int zq, .int zw, .int ze, .ref mY, .int zn_11, .ref mE, .int zm, .int zl, .ref mW, .int zk, .ref mO, .int zd, .ref y1, .ref y2, .ref y3, .ref y4, .ref mZ])), (mY, .inl (cI, 2600, .inl eY_11))] := hDn
          have hS := hSn
          clear hPn hDn hSn
          refine lv_aload_n hx hb dX12_writeLetter_160 rfl (lv_at hl 0 rfl) ?_
          refine lv_bipush (v := 35) hx hb dX12_writeLetter_161 (by decide) ?_
          have hPc := hP.sub (ws' := [(oM, .inr (12, [.ref mT, .int zt, .ref mS, .ref mX, .int zp, .int zf, .ref mL, .ref mB, .ref mD, .ref m1, .ref m2, .int zh, .ref mR, .int zr, .ref x1, .ref x2, .ref x3, .int zc, .ref mH, .int zy, .int za, .int zb, .int zs, .int zq, .int zw, .int ze, .ref mY, .int zn_11, .ref mE, .int zm, .int zl, .ref mW, .int zk, .ref mO, .int zd, .ref y1, .ref y2, .ref y3, .ref y4, .ref mZ])), (mY, .inl (cI, 2600, .inl eY_11))]) [1, 2] rfl
          have hDc := hD.sub (ws' := [(oM, .inr (12, [.ref mT, .int zt, .ref mS, .ref mX, .int zp, .int zf, .ref mL, .ref mB, .ref mD, .ref m1, .ref m2, .int zh, .ref mR, .int zr, .ref x1, .ref x2, .ref x3, .int zc, .ref mH, .int zy, .int za, .int zb, .int zs, .int zq, .int zw, .int ze, .ref mY, .int zn_11, .ref mE, .int zm, .int zl, .ref mW, .int zk, .ref mO, .int zd, .ref y1, .ref y2, .ref y3, .ref y4, .ref mZ])), (mY, .inl (cI, 2600, .inl eY_11))]) [1, 2] (by decide +kernel) rfl
          have hFc := va_free (wc := [(oM, .inr (12, [.ref mT, .int zt, .ref mS, .ref mX, .int zp, .int zf, .ref mL, .ref mB, .ref mD, .ref m1, .ref m2, .int zh, .ref mR, .int zr, .ref x1, .ref x2, .ref x3, .int zc, .ref mH, .int zy, .int za, .int zb, .int zs, .int zq, .int zw, .int ze, .ref mY, .int zn_11, .ref mE, .int zm, .int zl, .ref mW, .int zk, .ref mO, .int zd, .ref y1, .ref y2, .ref y3, .ref y4, .ref mZ])), (mY, .inl (cI, 2600, .inl eY_11))]) hD hS hA [1, 2] rfl
          refine va_callv (va_runV (As := [.int 35]) (rest := []) ⟨hx, hb, hml, hown, hts⟩ (m_X12_put l dC dI cI cS H.size oM mT mS mX mL mB mD m1 m2 mR x1 x2 x3 mH mY mE mW mO y1 y2 y3 y4 mZ zt zp zf zh zr zc zy za zb zs zq zw ze zn_11 zm zl zk zd eY_11 35 (g_zt) (g_zp) (g_zf) (g_zh) (g_zr) (g_zc) (g_zy) (g_za) (g_zb) (g_zs) (g_zq) (hf11_0) (g_zm) (g_zk) (hf11_1) (by decide) (by omega)) (cwV 1 hts gX12_writeLetter_X12_put rfl rfl rfl (by decide +kernel) ⟨Nat.le_of_ble_eq_true rfl, Nat.le_of_ble_eq_true rfl⟩) ⟨fun a U g mk q => by obtain ⟨q0, q1, qP, qK, qD⟩ := q; exact ⟨q0, q1, qP, va_K.moved (u := U) (U := U.calling g mk a) (Vm.Alike.refl U.vm) qK, qD⟩, va_recv hK hPc (ci := 12) (q0 := 0) rfl rfl, fun U hU hW => ⟨rfl, by rw [hU], by rw [hU]; exact hPc, va_K.moved hW.alike hK, hDc.weaken (fun _ _ _ _ => trivial)⟩⟩ rfl rfl hl.1 rfl (lv_room (Nat.le_of_ble_eq_true rfl)) dX12_writeLetter_163 ⟨Nat.le_of_ble_eq_true rfl, Nat.le_of_ble_eq_true rfl⟩) hS (fun q _ h => hFc q h) hFc (fun u t H1 locs ht hvm hw hB hz1 hk1 hSn => ?_)
          obtain ⟨zn_12, eY_12, hP1, hD1, hf12_0, hf12_1, hf12_2⟩ := hB
          rw [ht] at hP1
          obtain ⟨hPn, hDn⟩ := va_join (wr := [(mB, .inl (cS, 131072, .inl eB))]) (w1 := [(oM, .inr (12, [.ref mT, .int zt, .ref mS, .ref mX, .int zp, .int zf, .ref mL, .ref mB, .ref mD, .ref m1, .ref m2, .int zh, .ref mR, .int zr, .ref x1, .ref x2, .ref x3, .int zc, .ref mH, .int zy, .int za, .int zb, .int zs, .int zq, .int zw, .int ze, .ref mY, .int zn_12, .ref mE, .int zm, .int zl, .ref mW, .int zk, .ref mO, .int zd, .ref y1, .ref y2, .ref y3, .ref y4, .ref mZ])), (mY, .inl (cI, 2600, .inl eY_12))]) hP hD [1, 2] [0] rfl rfl (by decide +kernel) (by decide +kernel) hk1 hFc hP1 hD1
          clear hP hD hS hPc hDc hFc hk1 hz1 hvm ht hP1 hD1
          generalize H1 = H at hPn hSn ⊢
          have hP : va_P (dC, dI) vwCl [(mB, .inl (cS, 131072, .inl eB)), (oM, .inr (12, [.ref mT, .int zt, .ref mS, .ref mX, .int zp, .int zf, .ref mL, .ref mB, .ref mD, .ref m1, .ref m2, .int zh, .ref mR, .int zr, .ref x1, .ref x2, .ref x3, .int zc, .ref mH, .int zy, .int za, .int zb, .int zs, .int zq, .int zw, .int ze, .ref mY, .int zn_12, .ref mE, .int zm, .int zl, .ref mW, .int zk, .ref mO, .int zd, .ref y1, .ref y2, .ref y3, .ref y4, .ref mZ])), (mY, .inl (cI, 2600, .inl eY_12))] H := hPn
          have hD : va_D A [(mB, .inl (cS, 131072, .inl eB)), (oM, .inr (12, [.ref mT, .int zt, .ref mS, .ref mX, .int zp, .int zf, .ref mL, .ref mB, .ref mD, .ref m1, .ref m2, .int zh, .ref mR, .int zr, .ref x1, .ref x2, .ref x3, .int zc, .ref mH, .int zy, .int za, .int zb, .int zs, .int zq, .int zw, .int ze, .ref mY, .int zn_12, .ref mE, .int zm, .int zl, .ref mW, .int zk, .ref mO, .int zd, .ref y1, .ref y2, .ref y3, .ref y4, .ref mZ])), (mY, .inl (cI, 2600, .inl eY_12))] := hDn
          have hS := hSn
          clear hPn hDn hSn
          refine lv_iconst (v := 1) hx hb dX12_writeLetter_166 (by decide) ?_
          refine lv_istore_n (lv' := [(3, .int 1), (0, .ref oM), (1, .int cd), (2, .int x)]) hx hb dX12_writeLetter_167 rfl hl (by decide) rfl (fun ls hl => ?_)
          refine lv_iload_n hx hb dX12_writeLetter_168 rfl (lv_at hl 3 rfl) ?_
          refine lv_iload_n hx hb dX12_writeLetter_169 rfl (lv_at hl 0 rfl) ?_
          refine lv_idiv hx hb dX12_writeLetter_170 (by decide) ?_
          refine lv_topi (fun x_13 ex_13 => ?_)
          have tx_13 : x_13.toInt = x.toInt / 1 := v_div ex_13 (by omega) (by decide)
          refine lv_bipush (v := 10) hx hb dX12_writeLetter_171 (by decide) ?_
          refine lv_icmp_lt (tgt := 184) hx hb dX12_writeLetter_173 (by decide) (fun c_14 => by exfalso; have tc_14 : x_13.toInt < 10 := v_lt c_14; omega) (fun c_14 => ?_)
          have tc_14 : 10 ≤ x_13.toInt := v_nlt c_14
          refine lv_iload_n hx hb dX12_writeLetter_176 rfl (lv_at hl 0 rfl) ?_
          refine lv_bipush (v := 10) hx hb dX12_writeLetter_177 (by decide) ?_
          refine lv_imul hx hb dX12_writeLetter_179 ?_
          refine k_i (y := 10) (by decide) ?_
          refine lv_istore_n (lv' := [(3, .int 10), (0, .ref oM), (1, .int cd), (2, .int x)]) hx hb dX12_writeLetter_180 rfl hl (by decide) rfl (fun ls hl => ?_)
          refine lv_goto (tgt := 168) hx hb dX12_writeLetter_181 (by decide) ?_
          refine lv_iload_n hx hb dX12_writeLetter_168 rfl (lv_at hl 3 rfl) ?_
          refine lv_iload_n hx hb dX12_writeLetter_169 rfl (lv_at hl 0 rfl) ?_
          refine lv_idiv hx hb dX12_writeLetter_170 (by decide) ?_
          refine lv_topi (fun x_15 ex_15 => ?_)
          have tx_15 : x_15.toInt = x.toInt / 10 := v_div ex_15 (by omega) (by decide)
          refine lv_bipush (v := 10) hx hb dX12_writeLetter_171 (by decide) ?_
          refine lv_icmp_lt (tgt := 184) hx hb dX12_writeLetter_173 (by decide) (fun c_16 => by exfalso; have tc_16 : x_15.toInt < 10 := v_lt c_16; omega) (fun c_16 => ?_)
          have tc_16 : 10 ≤ x_15.toInt := v_nlt c_16
          refine lv_iload_n hx hb dX12_writeLetter_176 rfl (lv_at hl 0 rfl) ?_
          refine lv_bipush (v := 10) hx hb dX12_writeLetter_177 (by decide) ?_
          refine lv_imul hx hb dX12_writeLetter_179 ?_
          refine k_i (y := 100) (by decide) ?_
          refine lv_istore_n (lv' := [(3, .int 100), (0, .ref oM), (1, .int cd), (2, .int x)]) hx hb dX12_writeLetter_180 rfl hl (by decide) rfl (fun ls hl => ?_)
          refine lv_goto (tgt := 168) hx hb dX12_writeLetter_181 (by decide) ?_
          refine lv_iload_n hx hb dX12_writeLetter_168 rfl (lv_at hl 3 rfl) ?_
          refine lv_iload_n hx hb dX12_writeLetter_169 rfl (lv_at hl 0 rfl) ?_
          refine lv_idiv hx hb dX12_writeLetter_170 (by decide) ?_
          refine lv_topi (fun x_17 ex_17 => ?_)
          have tx_17 : x_17.toInt = x.toInt / 100 := v_div ex_17 (by omega) (by decide)
          refine lv_bipush (v := 10) hx hb dX12_writeLetter_171 (by decide) ?_
          refine lv_icmp_lt (tgt := 184) hx hb dX12_writeLetter_173 (by decide) (fun c_18 => ?_) (fun c_18 => ?_)
          · have tc_18 : x_17.toInt < 10 := v_lt c_18
            refine lv_iload_n hx hb dX12_writeLetter_184 rfl (lv_at hl 0 rfl) ?_
            refine lv_if_le (tgt := 209) hx hb dX12_writeLetter_185 (by decide) (fun c_19 => absurd c_19 (by decide)) (fun c_19 => ?_)
            refine lv_aload_n hx hb dX12_writeLetter_188 rfl (lv_at hl 1 rfl) ?_
            refine lv_bipush (v := 48) hx hb dX12_writeLetter_189 (by decide) ?_
            refine lv_iload_n hx hb dX12_writeLetter_191 rfl (lv_at hl 3 rfl) ?_
            refine lv_iload_n hx hb dX12_writeLetter_192 rfl (lv_at hl 0 rfl) ?_
            refine lv_idiv hx hb dX12_writeLetter_193 (by decide) ?_
            refine lv_topi (fun x_20 ex_20 => ?_)
            have tx_20 : x_20.toInt = x.toInt / 100 := v_div ex_20 (by omega) (by decide)
            refine lv_bipush (v := 10) hx hb dX12_writeLetter_194 (by decide) ?_
            refine lv_irem hx hb dX12_writeLetter_196 (by decide) ?_
            refine lv_topi (fun x_21 ex_21 => ?_)
            have tx_21 : x_21.toInt = x_20.toInt % 10 := v_rem ex_21 (by omega) (by decide)
            refine lv_iadd hx hb dX12_writeLetter_197 ?_
            refine lv_topi (fun x_22 ex_22 => ?_)
            have tx_22 : x_22.toInt = 48 + x_21.toInt := v_add ex_22 (by show -2147483648 ≤ 48 + x_21.toInt; omega) (by show 48 + x_21.toInt < 2147483648; omega)
            have hPc := hP.sub (ws' := [(oM, .inr (12, [.ref mT, .int zt, .ref mS, .ref mX, .int zp, .int zf, .ref mL, .ref mB, .ref mD, .ref m1, .ref m2, .int zh, .ref mR, .int zr, .ref x1, .ref x2, .ref x3, .int zc, .ref mH, .int zy, .int za, .int zb, .int zs, .int zq, .int zw, .int ze, .ref mY, .int zn_12, .ref mE, .int zm, .int zl, .ref mW, .int zk, .ref mO, .int zd, .ref y1, .ref y2, .ref y3, .ref y4, .ref mZ])), (mY, .inl (cI, 2600, .inl eY_12))]) [1, 2] rfl
            have hDc := hD.sub (ws' := [(oM, .inr (12, [.ref mT, .int zt, .ref mS, .ref mX, .int zp, .int zf, .ref mL, .ref mB, .ref mD, .ref m1, .ref m2, .int zh, .ref mR, .int zr, .ref x1, .ref x2, .ref x3, .int zc, .ref mH, .int zy, .int za, .int zb, .int zs, .int zq, .int zw, .int ze, .ref mY, .int zn_12, .ref mE, .int zm, .int zl, .ref mW, .int zk, .ref mO, .int zd, .ref y1, .ref y2, .ref y3, .ref y4, .ref mZ])), (mY, .inl (cI, 2600, .inl eY_12))]) [1, 2] (by decide +kernel) rfl
            have hFc := va_free (wc := [(oM, .inr (12, [.ref mT, .int zt, .ref mS, .ref mX, .int zp, .int zf, .ref mL, .ref mB, .ref mD, .ref m1, .ref m2, .int zh, .ref mR, .int zr, .ref x1, .ref x2, .ref x3, .int zc, .ref mH, .int zy, .int za, .int zb, .int zs, .int zq, .int zw, .int ze, .ref mY, .int zn_12, .ref mE, .int zm, .int zl, .ref mW, .int zk, .ref mO, .int zd, .ref y1, .ref y2, .ref y3, .ref y4, .ref mZ])), (mY, .inl (cI, 2600, .inl eY_12))]) hD hS hA [1, 2] rfl
            refine va_callv (va_runV (As := [.int x_22]) (rest := []) ⟨hx, hb, hml, hown, hts⟩ (m_X12_put l dC dI cI cS H.size oM mT mS mX mL mB mD m1 m2 mR x1 x2 x3 mH mY mE mW mO y1 y2 y3 y4 mZ zt zp zf zh zr zc zy za zb zs zq zw ze zn_12 zm zl zk zd eY_12 x_22 (g_zt) (g_zp) (g_zf) (g_zh) (g_zr) (g_zc) (g_zy) (g_za) (g_zb) (g_zs) (g_zq) (hf12_0) (g_zm) (g_zk) (hf12_1) (by omega) (by omega)) (cwV 1 hts gX12_writeLetter_X12_put rfl rfl rfl (by decide +kernel) ⟨Nat.le_of_ble_eq_true rfl, Nat.le_of_ble_eq_true rfl⟩) ⟨fun a U g mk q => by obtain ⟨q0, q1, qP, qK, qD⟩ := q; exact ⟨q0, q1, qP, va_K.moved (u := U) (U := U.calling g mk a) (Vm.Alike.refl U.vm) qK, qD⟩, va_recv hK hPc (ci := 12) (q0 := 0) rfl rfl, fun U hU hW => ⟨rfl, by rw [hU], by rw [hU]; exact hPc, va_K.moved hW.alike hK, hDc.weaken (fun _ _ _ _ => trivial)⟩⟩ rfl rfl hl.1 rfl (lv_room (Nat.le_of_ble_eq_true rfl)) dX12_writeLetter_198 ⟨Nat.le_of_ble_eq_true rfl, Nat.le_of_ble_eq_true rfl⟩) hS (fun q _ h => hFc q h) hFc (fun u t H1 locs ht hvm hw hB hz1 hk1 hSn => ?_)
            obtain ⟨zn_23, eY_23, hP1, hD1, hf23_0, hf23_1, hf23_2⟩ := hB
            rw [ht] at hP1
            obtain ⟨hPn, hDn⟩ := va_join (wr := [(mB, .inl (cS, 131072, .inl eB))]) (w1 := [(oM, .inr (12, [.ref mT, .int zt, .ref mS, .ref mX, .int zp, .int zf, .ref mL, .ref mB, .ref mD, .ref m1, .ref m2, .int zh, .ref mR, .int zr, .ref x1, .ref x2, .ref x3, .int zc, .ref mH, .int zy, .int za, .int zb, .int zs, .int zq, .int zw, .int ze, .ref mY, .int zn_23, .ref mE, .int zm, .int zl, .ref mW, .int zk, .ref mO, .int zd, .ref y1, .ref y2, .ref y3, .ref y4, .ref mZ])), (mY, .inl (cI, 2600, .inl eY_23))]) hP hD [1, 2] [0] rfl rfl (by decide +kernel) (by decide +kernel) hk1 hFc hP1 hD1
            clear hP hD hS hPc hDc hFc hk1 hz1 hvm ht hP1 hD1
            generalize H1 = H at hPn hSn ⊢
            have hP : va_P (dC, dI) vwCl [(mB, .inl (cS, 131072, .inl eB)), (oM, .inr (12, [.ref mT, .int zt, .ref mS, .ref mX, .int zp, .int zf, .ref mL, .ref mB, .ref mD, .ref m1, .ref m2, .int zh, .ref mR, .int zr, .ref x1, .ref x2, .ref x3, .int zc, .ref mH, .int zy, .int za, .int zb, .int zs, .int zq, .int zw, .int ze, .ref mY, .int zn_23, .ref mE, .int zm, .int zl, .ref mW, .int zk, .ref mO, .int zd, .ref y1, .ref y2, .ref y3, .ref y4, .ref mZ])), (mY, .inl (cI, 2600, .inl eY_23))] H := hPn
            have hD : va_D A [(mB, .inl (cS, 131072, .inl eB)), (oM, .inr (12, [.ref mT, .int zt, .ref mS, .ref mX, .int zp, .int zf, .ref mL, .ref mB, .ref mD, .ref m1, .ref m2, .int zh, .ref mR, .int zr, .ref x1, .ref x2, .ref x3, .int zc, .ref mH, .int zy, .int za, .int zb, .int zs, .int zq, .int zw, .int ze, .ref mY, .int zn_23, .ref mE, .int zm, .int zl, .ref mW, .int zk, .ref mO, .int zd, .ref y1, .ref y2, .ref y3, .ref y4, .ref mZ])), (mY, .inl (cI, 2600, .inl eY_23))] := hDn
            have hS := hSn
            clear hPn hDn hSn
            refine lv_iload_n hx hb dX12_writeLetter_201 rfl (lv_at hl 0 rfl) ?_
            refine lv_bipush (v := 10) hx hb dX12_writeLetter_202 (by decide) ?_
            refine lv_idiv hx hb dX12_writeLetter_204 (by decide) ?_
            refine k_i (y := 10) (by decide) ?_
            refine lv_istore_n (lv' := [(3, .int 10), (0, .ref oM), (1, .int cd), (2, .int x)]) hx hb dX12_writeLetter_205 rfl hl (by decide) rfl (fun ls hl => ?_)
            refine lv_goto (tgt := 184) hx hb dX12_writeLetter_206 (by decide) ?_
            refine lv_iload_n hx hb dX12_writeLetter_184 rfl (lv_at hl 0 rfl) ?_
            refine lv_if_le (tgt := 209) hx hb dX12_writeLetter_185 (by decide) (fun c_24 => absurd c_24 (by decide)) (fun c_24 => ?_)
            refine lv_aload_n hx hb dX12_writeLetter_188 rfl (lv_at hl 1 rfl) ?_
            refine lv_bipush (v := 48) hx hb dX12_writeLetter_189 (by decide) ?_
            refine lv_iload_n hx hb dX12_writeLetter_191 rfl (lv_at hl 3 rfl) ?_
            refine lv_iload_n hx hb dX12_writeLetter_192 rfl (lv_at hl 0 rfl) ?_
            refine lv_idiv hx hb dX12_writeLetter_193 (by decide) ?_
            refine lv_topi (fun x_25 ex_25 => ?_)
            have tx_25 : x_25.toInt = x.toInt / 10 := v_div ex_25 (by omega) (by decide)
            refine lv_bipush (v := 10) hx hb dX12_writeLetter_194 (by decide) ?_
            refine lv_irem hx hb dX12_writeLetter_196 (by decide) ?_
            refine lv_topi (fun x_26 ex_26 => ?_)
            have tx_26 : x_26.toInt = x_25.toInt % 10 := v_rem ex_26 (by omega) (by decide)
            refine lv_iadd hx hb dX12_writeLetter_197 ?_
            refine lv_topi (fun x_27 ex_27 => ?_)
            have tx_27 : x_27.toInt = 48 + x_26.toInt := v_add ex_27 (by show -2147483648 ≤ 48 + x_26.toInt; omega) (by show 48 + x_26.toInt < 2147483648; omega)
            have hPc := hP.sub (ws' := [(oM, .inr (12, [.ref mT, .int zt, .ref mS, .ref mX, .int zp, .int zf, .ref mL, .ref mB, .ref mD, .ref m1, .ref m2, .int zh, .ref mR, .int zr, .ref x1, .ref x2, .ref x3, .int zc, .ref mH, .int zy, .int za, .int zb, .int zs, .int zq, .int zw, .int ze, .ref mY, .int zn_23, .ref mE, .int zm, .int zl, .ref mW, .int zk, .ref mO, .int zd, .ref y1, .ref y2, .ref y3, .ref y4, .ref mZ])), (mY, .inl (cI, 2600, .inl eY_23))]) [1, 2] rfl
            have hDc := hD.sub (ws' := [(oM, .inr (12, [.ref mT, .int zt, .ref mS, .ref mX, .int zp, .int zf, .ref mL, .ref mB, .ref mD, .ref m1, .ref m2, .int zh, .ref mR, .int zr, .ref x1, .ref x2, .ref x3, .int zc, .ref mH, .int zy, .int za, .int zb, .int zs, .int zq, .int zw, .int ze, .ref mY, .int zn_23, .ref mE, .int zm, .int zl, .ref mW, .int zk, .ref mO, .int zd, .ref y1, .ref y2, .ref y3, .ref y4, .ref mZ])), (mY, .inl (cI, 2600, .inl eY_23))]) [1, 2] (by decide +kernel) rfl
            have hFc := va_free (wc := [(oM, .inr (12, [.ref mT, .int zt, .ref mS, .ref mX, .int zp, .int zf, .ref mL, .ref mB, .ref mD, .ref m1, .ref m2, .int zh, .ref mR, .int zr, .ref x1, .ref x2, .ref x3, .int zc, .ref mH, .int zy, .int za, .int zb, .int zs, .int zq, .int zw, .int ze, .ref mY, .int zn_23, .ref mE, .int zm, .int zl, .ref mW, .int zk, .ref mO, .int zd, .ref y1, .ref y2, .ref y3, .ref y4, .ref mZ])), (mY, .inl (cI, 2600, .inl eY_23))]) hD hS hA [1, 2] rfl
            refine va_callv (va_runV (As := [.int x_27]) (rest := []) ⟨hx, hb, hml, hown, hts⟩ (m_X12_put l dC dI cI cS H.size oM mT mS mX mL mB mD m1 m2 mR x1 x2 x3 mH mY mE mW mO y1 y2 y3 y4 mZ zt zp zf zh zr zc zy za zb zs zq zw ze zn_23 zm zl zk zd eY_23 x_27 (g_zt) (g_zp) (g_zf) (g_zh) (g_zr) (g_zc) (g_zy) (g_za) (g_zb) (g_zs) (g_zq) (hf23_0) (g_zm) (g_zk) (hf23_1) (by omega) (by omega)) (cwV 1 hts gX12_writeLetter_X12_put rfl rfl rfl (by decide +kernel) ⟨Nat.le_of_ble_eq_true rfl, Nat.le_of_ble_eq_true rfl⟩) ⟨fun a U g mk q => by obtain ⟨q0, q1, qP, qK, qD⟩ := q; exact ⟨q0, q1, qP, va_K.moved (u := U) (U := U.calling g mk a) (Vm.Alike.refl U.vm) qK, qD⟩, va_recv hK hPc (ci := 12) (q0 := 0) rfl rfl, fun U hU hW => ⟨rfl, by rw [hU], by rw [hU]; exact hPc, va_K.moved hW.alike hK, hDc.weaken (fun _ _ _ _ => trivial)⟩⟩ rfl rfl hl.1 rfl (lv_room (Nat.le_of_ble_eq_true rfl)) dX12_writeLetter_198 ⟨Nat.le_of_ble_eq_true rfl, Nat.le_of_ble_eq_true rfl⟩) hS (fun q _ h => hFc q h) hFc (fun u t H1 locs ht hvm hw hB hz1 hk1 hSn => ?_)
            obtain ⟨zn_28, eY_28, hP1, hD1, hf28_0, hf28_1, hf28_2⟩ := hB
            rw [ht] at hP1
            obtain ⟨hPn, hDn⟩ := va_join (wr := [(mB, .inl (cS, 131072, .inl eB))]) (w1 := [(oM, .inr (12, [.ref mT, .int zt, .ref mS, .ref mX, .int zp, .int zf, .ref mL, .ref mB, .ref mD, .ref m1, .ref m2, .int zh, .ref mR, .int zr, .ref x1, .ref x2, .ref x3, .int zc, .ref mH, .int zy, .int za, .int zb, .int zs, .int zq, .int zw, .int ze, .ref mY, .int zn_28, .ref mE, .int zm, .int zl, .ref mW, .int zk, .ref mO, .int zd, .ref y1, .ref y2, .ref y3, .ref y4, .ref mZ])), (mY, .inl (cI, 2600, .inl eY_28))]) hP hD [1, 2] [0] rfl rfl (by decide +kernel) (by decide +kernel) hk1 hFc hP1 hD1
            clear hP hD hS hPc hDc hFc hk1 hz1 hvm ht hP1 hD1
            generalize H1 = H at hPn hSn ⊢
            have hP : va_P (dC, dI) vwCl [(mB, .inl (cS, 131072, .inl eB)), (oM, .inr (12, [.ref mT, .int zt, .ref mS, .ref mX, .int zp, .int zf, .ref mL, .ref mB, .ref mD, .ref m1, .ref m2, .int zh, .ref mR, .int zr, .ref x1, .ref x2, .ref x3, .int zc, .ref mH, .int zy, .int za, .int zb, .int zs, .int zq, .int zw, .int ze, .ref mY, .int zn_28, .ref mE, .int zm, .int zl, .ref mW, .int zk, .ref mO, .int zd, .ref y1, .ref y2, .ref y3, .ref y4, .ref mZ])), (mY, .inl (cI, 2600, .inl eY_28))] H := hPn
            have hD : va_D A [(mB, .inl (cS, 131072, .inl eB)), (oM, .inr (12, [.ref mT, .int zt, .ref mS, .ref mX, .int zp, .int zf, .ref mL, .ref mB, .ref mD, .ref m1, .ref m2, .int zh, .ref mR, .int zr, .ref x1, .ref x2, .ref x3, .int zc, .ref mH, .int zy, .int za, .int zb, .int zs, .int zq, .int zw, .int ze, .ref mY, .int zn_28, .ref mE, .int zm, .int zl, .ref mW, .int zk, .ref mO, .int zd, .ref y1, .ref y2, .ref y3, .ref y4, .ref mZ])), (mY, .inl (cI, 2600, .inl eY_28))] := hDn
            have hS := hSn
            clear hPn hDn hSn
            refine lv_iload_n hx hb dX12_writeLetter_201 rfl (lv_at hl 0 rfl) ?_
            refine lv_bipush (v := 10) hx hb dX12_writeLetter_202 (by decide) ?_
            refine lv_idiv hx hb dX12_writeLetter_204 (by decide) ?_
            refine k_i (y := 1) (by decide) ?_
            refine lv_istore_n (lv' := [(3, .int 1), (0, .ref oM), (1, .int cd), (2, .int x)]) hx hb dX12_writeLetter_205 rfl hl (by decide) rfl (fun ls hl => ?_)
            refine lv_goto (tgt := 184) hx hb dX12_writeLetter_206 (by decide) ?_
            refine lv_iload_n hx hb dX12_writeLetter_184 rfl (lv_at hl 0 rfl) ?_
            refine lv_if_le (tgt := 209) hx hb dX12_writeLetter_185 (by decide) (fun c_29 => absurd c_29 (by decide)) (fun c_29 => ?_)
            refine lv_aload_n hx hb dX12_writeLetter_188 rfl (lv_at hl 1 rfl) ?_
            refine lv_bipush (v := 48) hx hb dX12_writeLetter_189 (by decide) ?_
            refine lv_iload_n hx hb dX12_writeLetter_191 rfl (lv_at hl 3 rfl) ?_
            refine lv_iload_n hx hb dX12_writeLetter_192 rfl (lv_at hl 0 rfl) ?_
            refine lv_idiv hx hb dX12_writeLetter_193 (by decide) ?_
            refine lv_topi (fun x_30 ex_30 => ?_)
            have tx_30 : x_30.toInt = x.toInt / 1 := v_div ex_30 (by omega) (by decide)
            refine lv_bipush (v := 10) hx hb dX12_writeLetter_194 (by decide) ?_
            refine lv_irem hx hb dX12_writeLetter_196 (by decide) ?_
            refine lv_topi (fun x_31 ex_31 => ?_)
            have tx_31 : x_31.toInt = x_30.toInt % 10 := v_rem ex_31 (by omega) (by decide)
            refine lv_iadd hx hb dX12_writeLetter_197 ?_
            refine lv_topi (fun x_32 ex_32 => ?_)
            have tx_32 : x_32.toInt = 48 + x_31.toInt := v_add ex_32 (by show -2147483648 ≤ 48 + x_31.toInt; omega) (by show 48 + x_31.toInt < 2147483648; omega)
            have hPc := hP.sub (ws' := [(oM, .inr (12, [.ref mT, .int zt, .ref mS, .ref mX, .int zp, .int zf, .ref mL, .ref mB, .ref mD, .ref m1, .ref m2, .int zh, .ref mR, .int zr, .ref x1, .ref x2, .ref x3, .int zc, .ref mH, .int zy, .int za, .int zb, .int zs, .int zq, .int zw, .int ze, .ref mY, .int zn_28, .ref mE, .int zm, .int zl, .ref mW, .int zk, .ref mO, .int zd, .ref y1, .ref y2, .ref y3, .ref y4, .ref mZ])), (mY, .inl (cI, 2600, .inl eY_28))]) [1, 2] rfl
            have hDc := hD.sub (ws' := [(oM, .inr (12, [.ref mT, .int zt, .ref mS, .ref mX, .int zp, .int zf, .ref mL, .ref mB, .ref mD, .ref m1, .ref m2, .int zh, .ref mR, .int zr, .ref x1, .ref x2, .ref x3, .int zc, .ref mH, .int zy, .int za, .int zb, .int zs, .int zq, .int zw, .int ze, .ref mY, .int zn_28, .ref mE, .int zm, .int zl, .ref mW, .int zk, .ref mO, .int zd, .ref y1, .ref y2, .ref y3, .ref y4, .ref mZ])), (mY, .inl (cI, 2600, .inl eY_28))]) [1, 2] (by decide +kernel) rfl
            have hFc := va_free (wc := [(oM, .inr (12, [.ref mT, .int zt, .ref mS, .ref mX, .int zp, .int zf, .ref mL, .ref mB, .ref mD, .ref m1, .ref m2, .int zh, .ref mR, .int zr, .ref x1, .ref x2, .ref x3, .int zc, .ref mH, .int zy, .int za, .int zb, .int zs, .int zq, .int zw, .int ze, .ref mY, .int zn_28, .ref mE, .int zm, .int zl, .ref mW, .int zk, .ref mO, .int zd, .ref y1, .ref y2, .ref y3, .ref y4, .ref mZ])), (mY, .inl (cI, 2600, .inl eY_28))]) hD hS hA [1, 2] rfl
            refine va_callv (va_runV (As := [.int x_32]) (rest := []) ⟨hx, hb, hml, hown, hts⟩ (m_X12_put l dC dI cI cS H.size oM mT mS mX mL mB mD m1 m2 mR x1 x2 x3 mH mY mE mW mO y1 y2 y3 y4 mZ zt zp zf zh zr zc zy za zb zs zq zw ze zn_28 zm zl zk zd eY_28 x_32 (g_zt) (g_zp) (g_zf) (g_zh) (g_zr) (g_zc) (g_zy) (g_za) (g_zb) (g_zs) (g_zq) (hf28_0) (g_zm) (g_zk) (hf28_1) (by omega) (by omega)) (cwV 1 hts gX12_writeLetter_X12_put rfl rfl rfl (by decide +kernel) ⟨Nat.le_of_ble_eq_true rfl, Nat.le_of_ble_eq_true rfl⟩) ⟨fun a U g mk q => by obtain ⟨q0, q1, qP, qK, qD⟩ := q; exact ⟨q0, q1, qP, va_K.moved (u := U) (U := U.calling g mk a) (Vm.Alike.refl U.vm) qK, qD⟩, va_recv hK hPc (ci := 12) (q0 := 0) rfl rfl, fun U hU hW => ⟨rfl, by rw [hU], by rw [hU]; exact hPc, va_K.moved hW.alike hK, hDc.weaken (fun _ _ _ _ => trivial)⟩⟩ rfl rfl hl.1 rfl (lv_room (Nat.le_of_ble_eq_true rfl)) dX12_writeLetter_198 ⟨Nat.le_of_ble_eq_true rfl, Nat.le_of_ble_eq_true rfl⟩) hS (fun q _ h => hFc q h) hFc (fun u t H1 locs ht hvm hw hB hz1 hk1 hSn => ?_)
            obtain ⟨zn_33, eY_33, hP1, hD1, hf33_0, hf33_1, hf33_2⟩ := hB
            rw [ht] at hP1
            obtain ⟨hPn, hDn⟩ := va_join (wr := [(mB, .inl (cS, 131072, .inl eB))]) (w1 := [(oM, .inr (12, [.ref mT, .int zt, .ref mS, .ref mX, .int zp, .int zf, .ref mL, .ref mB, .ref mD, .ref m1, .ref m2, .int zh, .ref mR, .int zr, .ref x1, .ref x2, .ref x3, .int zc, .ref mH, .int zy, .int za, .int zb, .int zs, .int zq, .int zw, .int ze, .ref mY, .int zn_33, .ref mE, .int zm, .int zl, .ref mW, .int zk, .ref mO, .int zd, .ref y1, .ref y2, .ref y3, .ref y4, .ref mZ])), (mY, .inl (cI, 2600, .inl eY_33))]) hP hD [1, 2] [0] rfl rfl (by decide +kernel) (by decide +kernel) hk1 hFc hP1 hD1
            clear hP hD hS hPc hDc hFc hk1 hz1 hvm ht hP1 hD1
            generalize H1 = H at hPn hSn ⊢
            have hP : va_P (dC, dI) vwCl [(mB, .inl (cS, 131072, .inl eB)), (oM, .inr (12, [.ref mT, .int zt, .ref mS, .ref mX, .int zp, .int zf, .ref mL, .ref mB, .ref mD, .ref m1, .ref m2, .int zh, .ref mR, .int zr, .ref x1, .ref x2, .ref x3, .int zc, .ref mH, .int zy, .int za, .int zb, .int zs, .int zq, .int zw, .int ze, .ref mY, .int zn_33, .ref mE, .int zm, .int zl, .ref mW, .int zk, .ref mO, .int zd, .ref y1, .ref y2, .ref y3, .ref y4, .ref mZ])), (mY, .inl (cI, 2600, .inl eY_33))] H := hPn
            have hD : va_D A [(mB, .inl (cS, 131072, .inl eB)), (oM, .inr (12, [.ref mT, .int zt, .ref mS, .ref mX, .int zp, .int zf, .ref mL, .ref mB, .ref mD, .ref m1, .ref m2, .int zh, .ref mR, .int zr, .ref x1, .ref x2, .ref x3, .int zc, .ref mH, .int zy, .int za, .int zb, .int zs, .int zq, .int zw, .int ze, .ref mY, .int zn_33, .ref mE, .int zm, .int zl, .ref mW, .int zk, .ref mO, .int zd, .ref y1, .ref y2, .ref y3, .ref y4, .ref mZ])), (mY, .inl (cI, 2600, .inl eY_33))] := hDn
            have hS := hSn
            clear hPn hDn hSn
            refine lv_iload_n hx hb dX12_writeLetter_201 rfl (lv_at hl 0 rfl) ?_
            refine lv_bipush (v := 10) hx hb dX12_writeLetter_202 (by decide) ?_
            refine lv_idiv hx hb dX12_writeLetter_204 (by decide) ?_
            refine k_i (y := 0) (by decide) ?_
            refine lv_istore_n (lv' := [(3, .int 0), (0, .ref oM), (1, .int cd), (2, .int x)]) hx hb dX12_writeLetter_205 rfl hl (by decide) rfl (fun ls hl => ?_)
            refine lv_goto (tgt := 184) hx hb dX12_writeLetter_206 (by decide) ?_
            refine lv_iload_n hx hb dX12_writeLetter_184 rfl (lv_at hl 0 rfl) ?_
            refine lv_if_le (tgt := 209) hx hb dX12_writeLetter_185 (by decide) (fun c_34 => ?_) (fun c_34 => absurd c_34 (by decide))
            refine lv_aload_n hx hb dX12_writeLetter_209 rfl (lv_at hl 1 rfl) ?_
            refine lv_bipush (v := 59) hx hb dX12_writeLetter_210 (by decide) ?_
            have hPc := hP.sub (ws' := [(oM, .inr (12, [.ref mT, .int zt, .ref mS, .ref mX, .int zp, .int zf, .ref mL, .ref mB, .ref mD, .ref m1, .ref m2, .int zh, .ref mR, .int zr, .ref x1, .ref x2, .ref x3, .int zc, .ref mH, .int zy, .int za, .int zb, .int zs, .int zq, .int zw, .int ze, .ref mY, .int zn_33, .ref mE, .int zm, .int zl, .ref mW, .int zk, .ref mO, .int zd, .ref y1, .ref y2, .ref y3, .ref y4, .ref mZ])), (mY, .inl (cI, 2600, .inl eY_33))]) [1, 2] rfl
            have hDc := hD.sub (ws' := [(oM, .inr (12, [.ref mT, .int zt, .ref mS, .ref mX, .int zp, .int zf, .ref mL, .ref mB, .ref mD, .ref m1, .ref m2, .int zh, .ref mR, .int zr, .ref x1, .ref x2, .ref x3, .int zc, .ref mH, .int zy, .int za, .int zb, .int zs, .int zq, .int zw, .int ze, .ref mY, .int zn_33, .ref mE, .int zm, .int zl, .ref mW, .int zk, .ref mO, .int zd, .ref y1, .ref y2, .ref y3, .ref y4, .ref mZ])), (mY, .inl (cI, 2600, .inl eY_33))]) [1, 2] (by decide +kernel) rfl
            have hFc := va_free (wc := [(oM, .inr (12, [.ref mT, .int zt, .ref mS, .ref mX, .int zp, .int zf, .ref mL, .ref mB, .ref mD, .ref m1, .ref m2, .int zh, .ref mR, .int zr, .ref x1, .ref x2, .ref x3, .int zc, .ref mH, .int zy, .int za, .int zb, .int zs, .int zq, .int zw, .int ze, .ref mY, .int zn_33, .ref mE, .int zm, .int zl, .ref mW, .int zk, .ref mO, .int zd, .ref y1, .ref y2, .ref y3, .ref y4, .ref mZ])), (mY, .inl (cI, 2600, .inl eY_33))]) hD hS hA [1, 2] rfl
            refine va_callv (va_runV (As := [.int 59]) (rest := []) ⟨hx, hb, hml, hown, hts⟩ (m_X12_put l dC dI cI cS H.size oM mT mS mX mL mB mD m1 m2 mR x1 x2 x3 mH mY mE mW mO y1 y2 y3 y4 mZ zt zp zf zh zr zc zy za zb zs zq zw ze zn_33 zm zl zk zd eY_33 59 (g_zt) (g_zp) (g_zf) (g_zh) (g_zr) (g_zc) (g_zy) (g_za) (g_zb) (g_zs) (g_zq) (hf33_0) (g_zm) (g_zk) (hf33_1) (by decide) (by omega)) (cwV 1 hts gX12_writeLetter_X12_put rfl rfl rfl (by decide +kernel) ⟨Nat.le_of_ble_eq_true rfl, Nat.le_of_ble_eq_true rfl⟩) ⟨fun a U g mk q => by obtain ⟨q0, q1, qP, qK, qD⟩ := q; exact ⟨q0, q1, qP, va_K.moved (u := U) (U := U.calling g mk a) (Vm.Alike.refl U.vm) qK, qD⟩, va_recv hK hPc (ci := 12) (q0 := 0) rfl rfl, fun U hU hW => ⟨rfl, by rw [hU], by rw [hU]; exact hPc, va_K.moved hW.alike hK, hDc.weaken (fun _ _ _ _ => trivial)⟩⟩ rfl rfl hl.1 rfl (lv_room (Nat.le_of_ble_eq_true rfl)) dX12_writeLetter_212 ⟨Nat.le_of_ble_eq_true rfl, Nat.le_of_ble_eq_true rfl⟩) hS (fun q _ h => hFc q h) hFc (fun u t H1 locs ht hvm hw hB hz1 hk1 hSn => ?_)
            obtain ⟨zn_35, eY_35, hP1, hD1, hf35_0, hf35_1, hf35_2⟩ := hB
            rw [ht] at hP1
            obtain ⟨hPn, hDn⟩ := va_join (wr := [(mB, .inl (cS, 131072, .inl eB))]) (w1 := [(oM, .inr (12, [.ref mT, .int zt, .ref mS, .ref mX, .int zp, .int zf, .ref mL, .ref mB, .ref mD, .ref m1, .ref m2, .int zh, .ref mR, .int zr, .ref x1, .ref x2, .ref x3, .int zc, .ref mH, .int zy, .int za, .int zb, .int zs, .int zq, .int zw, .int ze, .ref mY, .int zn_35, .ref mE, .int zm, .int zl, .ref mW, .int zk, .ref mO, .int zd, .ref y1, .ref y2, .ref y3, .ref y4, .ref mZ])), (mY, .inl (cI, 2600, .inl eY_35))]) hP hD [1, 2] [0] rfl rfl (by decide +kernel) (by decide +kernel) hk1 hFc hP1 hD1
            clear hP hD hS hPc hDc hFc hk1 hz1 hvm ht hP1 hD1
            generalize H1 = H at hPn hSn ⊢
            have hP : va_P (dC, dI) vwCl [(mB, .inl (cS, 131072, .inl eB)), (oM, .inr (12, [.ref mT, .int zt, .ref mS, .ref mX, .int zp, .int zf, .ref mL, .ref mB, .ref mD, .ref m1, .ref m2, .int zh, .ref mR, .int zr, .ref x1, .ref x2, .ref x3, .int zc, .ref mH, .int zy, .int za, .int zb, .int zs, .int zq, .int zw, .int ze, .ref mY, .int zn_35, .ref mE, .int zm, .int zl, .ref mW, .int zk, .ref mO, .int zd, .ref y1, .ref y2, .ref y3, .ref y4, .ref mZ])), (mY, .inl (cI, 2600, .inl eY_35))] H := hPn
            have hD : va_D A [(mB, .inl (cS, 131072, .inl eB)), (oM, .inr (12, [.ref mT, .int zt, .ref mS, .ref mX, .int zp, .int zf, .ref mL, .ref mB, .ref mD, .ref m1, .ref m2, .int zh, .ref mR, .int zr, .ref x1, .ref x2, .ref x3, .int zc, .ref mH, .int zy, .int za, .int zb, .int zs, .int zq, .int zw, .int ze, .ref mY, .int zn_35, .ref mE, .int zm, .int zl, .ref mW, .int zk, .ref mO, .int zd, .ref y1, .ref y2, .ref y3, .ref y4, .ref mZ])), (mY, .inl (cI, 2600, .inl eY_35))] := hDn
            have hS := hSn
            clear hPn hDn hSn
            refine lv_goto (tgt := 244) hx hb dX12_writeLetter_215 (by decide) ?_
            refine lv_iconst (v := 1) hx hb dX12_writeLetter_244 (by decide) ?_
            have hP9 := hP.sub (ws' := [(oM, .inr (12, [.ref mT, .int zt, .ref mS, .ref mX, .int zp, .int zf, .ref mL, .ref mB, .ref mD, .ref m1, .ref m2, .int zh, .ref mR, .int zr, .ref x1, .ref x2, .ref x3, .int zc, .ref mH, .int zy, .int za, .int zb, .int zs, .int zq, .int zw, .int ze, .ref mY, .int zn_35, .ref mE, .int zm, .int zl, .ref mW, .int zk, .ref mO, .int zd, .ref y1, .ref y2, .ref y3, .ref y4, .ref mZ])), (mY, .inl (cI, 2600, .inl eY_35)), (mB, .inl (cS, 131072, .inl eB))]) [1, 2, 0] rfl
            have hD9 := hD.sub (ws' := [(oM, .inr (12, [.ref mT, .int zt, .ref mS, .ref mX, .int zp, .int zf, .ref mL, .ref mB, .ref mD, .ref m1, .ref m2, .int zh, .ref mR, .int zr, .ref x1, .ref x2, .ref x3, .int zc, .ref mH, .int zy, .int za, .int zb, .int zs, .int zq, .int zw, .int ze, .ref mY, .int zn_35, .ref mE, .int zm, .int zl, .ref mW, .int zk, .ref mO, .int zd, .ref y1, .ref y2, .ref y3, .ref y4, .ref mZ])), (mY, .inl (cI, 2600, .inl eY_35)), (mB, .inl (cS, 131072, .inl eB))]) [1, 2, 0] (by decide +kernel) rfl
            rw [hQQ]
            exact W.zret (v := 1) (ty := .boolean) hx hb hr (rfl) (fun t ht hW => ⟨⟨1, 1, rfl, rfl, ⟨zn_35, eY_35, by rw [ht]; exact hP9, hD9, hf35_0, hf35_1, by decide, by show zn_35.toInt ≤ zn.toInt + 8; omega⟩⟩, hS.F ht⟩) hS.2.2 dX12_writeLetter_245
          · have tc_18 : 10 ≤ x_17.toInt := v_nlt c_18
            refine lv_iload_n hx hb dX12_writeLetter_176 rfl (lv_at hl 0 rfl) ?_
            refine lv_bipush (v := 10) hx hb dX12_writeLetter_177 (by decide) ?_
            refine lv_imul hx hb dX12_writeLetter_179 ?_
            refine k_i (y := 1000) (by decide) ?_
            refine lv_istore_n (lv' := [(3, .int 1000), (0, .ref oM), (1, .int cd), (2, .int x)]) hx hb dX12_writeLetter_180 rfl hl (by decide) rfl (fun ls hl => ?_)
            refine lv_goto (tgt := 168) hx hb dX12_writeLetter_181 (by decide) ?_
            refine lv_iload_n hx hb dX12_writeLetter_168 rfl (lv_at hl 3 rfl) ?_
            refine lv_iload_n hx hb dX12_writeLetter_169 rfl (lv_at hl 0 rfl) ?_
            refine lv_idiv hx hb dX12_writeLetter_170 (by decide) ?_
            refine lv_topi (fun x_36 ex_36 => ?_)
            have tx_36 : x_36.toInt = x.toInt / 1000 := v_div ex_36 (by omega) (by decide)
            refine lv_bipush (v := 10) hx hb dX12_writeLetter_171 (by decide) ?_
            refine lv_icmp_lt (tgt := 184) hx hb dX12_writeLetter_173 (by decide) (fun c_37 => ?_) (fun c_37 => ?_)
            · have tc_37 : x_36.toInt < 10 := v_lt c_37
              refine lv_iload_n hx hb dX12_writeLetter_184 rfl (lv_at hl 0 rfl) ?_
              refine lv_if_le (tgt := 209) hx hb dX12_writeLetter_185 (by decide) (fun c_38 => absurd c_38 (by decide)) (fun c_38 => ?_)
              refine lv_aload_n hx hb dX12_writeLetter_188 rfl (lv_at hl 1 rfl) ?_
              refine lv_bipush (v := 48) hx hb dX12_writeLetter_189 (by decide) ?_
              refine lv_iload_n hx hb dX12_writeLetter_191 rfl (lv_at hl 3 rfl) ?_
              refine lv_iload_n hx hb dX12_writeLetter_192 rfl (lv_at hl 0 rfl) ?_
              refine lv_idiv hx hb dX12_writeLetter_193 (by decide) ?_
              refine lv_topi (fun x_39 ex_39 => ?_)
              have tx_39 : x_39.toInt = x.toInt / 1000 := v_div ex_39 (by omega) (by decide)
              refine lv_bipush (v := 10) hx hb dX12_writeLetter_194 (by decide) ?_
              refine lv_irem hx hb dX12_writeLetter_196 (by decide) ?_
              refine lv_topi (fun x_40 ex_40 => ?_)
              have tx_40 : x_40.toInt = x_39.toInt % 10 := v_rem ex_40 (by omega) (by decide)
              refine lv_iadd hx hb dX12_writeLetter_197 ?_
              refine lv_topi (fun x_41 ex_41 => ?_)
              have tx_41 : x_41.toInt = 48 + x_40.toInt := v_add ex_41 (by show -2147483648 ≤ 48 + x_40.toInt; omega) (by show 48 + x_40.toInt < 2147483648; omega)
              have hPc := hP.sub (ws' := [(oM, .inr (12, [.ref mT, .int zt, .ref mS, .ref mX, .int zp, .int zf, .ref mL, .ref mB, .ref mD, .ref m1, .ref m2, .int zh, .ref mR, .int zr, .ref x1, .ref x2, .ref x3, .int zc, .ref mH, .int zy, .int za, .int zb, .int zs, .int zq, .int zw, .int ze, .ref mY, .int zn_12, .ref mE, .int zm, .int zl, .ref mW, .int zk, .ref mO, .int zd, .ref y1, .ref y2, .ref y3, .ref y4, .ref mZ])), (mY, .inl (cI, 2600, .inl eY_12))]) [1, 2] rfl
              have hDc := hD.sub (ws' := [(oM, .inr (12, [.ref mT, .int zt, .ref mS, .ref mX, .int zp, .int zf, .ref mL, .ref mB, .ref mD, .ref m1, .ref m2, .int zh, .ref mR, .int zr, .ref x1, .ref x2, .ref x3, .int zc, .ref mH, .int zy, .int za, .int zb, .int zs, .int zq, .int zw, .int ze, .ref mY, .int zn_12, .ref mE, .int zm, .int zl, .ref mW, .int zk, .ref mO, .int zd, .ref y1, .ref y2, .ref y3, .ref y4, .ref mZ])), (mY, .inl (cI, 2600, .inl eY_12))]) [1, 2] (by decide +kernel) rfl
              have hFc := va_free (wc := [(oM, .inr (12, [.ref mT, .int zt, .ref mS, .ref mX, .int zp, .int zf, .ref mL, .ref mB, .ref mD, .ref m1, .ref m2, .int zh, .ref mR, .int zr, .ref x1, .ref x2, .ref x3, .int zc, .ref mH, .int zy, .int za, .int zb, .int zs, .int zq, .int zw, .int ze, .ref mY, .int zn_12, .ref mE, .int zm, .int zl, .ref mW, .int zk, .ref mO, .int zd, .ref y1, .ref y2, .ref y3, .ref y4, .ref mZ])), (mY, .inl (cI, 2600, .inl eY_12))]) hD hS hA [1, 2] rfl
              refine va_callv (va_runV (As := [.int x_41]) (rest := []) ⟨hx, hb, hml, hown, hts⟩ (m_X12_put l dC dI cI cS H.size oM mT mS mX mL mB mD m1 m2 mR x1 x2 x3 mH mY mE mW mO y1 y2 y3 y4 mZ zt zp zf zh zr zc zy za zb zs zq zw ze zn_12 zm zl zk zd eY_12 x_41 (g_zt) (g_zp) (g_zf) (g_zh) (g_zr) (g_zc) (g_zy) (g_za) (g_zb) (g_zs) (g_zq) (hf12_0) (g_zm) (g_zk) (hf12_1) (by omega) (by omega)) (cwV 1 hts gX12_writeLetter_X12_put rfl rfl rfl (by decide +kernel) ⟨Nat.le_of_ble_eq_true rfl, Nat.le_of_ble_eq_true rfl⟩) ⟨fun a U g mk q => by obtain ⟨q0, q1, qP, qK, qD⟩ := q; exact ⟨q0, q1, qP, va_K.moved (u := U) (U := U.calling g mk a) (Vm.Alike.refl U.vm) qK, qD⟩, va_recv hK hPc (ci := 12) (q0 := 0) rfl rfl, fun U hU hW => ⟨rfl, by rw [hU], by rw [hU]; exact hPc, va_K.moved hW.alike hK, hDc.weaken (fun _ _ _ _ => trivial)⟩⟩ rfl rfl hl.1 rfl (lv_room (Nat.le_of_ble_eq_true rfl)) dX12_writeLetter_198 ⟨Nat.le_of_ble_eq_true rfl, Nat.le_of_ble_eq_true rfl⟩) hS (fun q _ h => hFc q h) hFc (fun u t H1 locs ht hvm hw hB hz1 hk1 hSn => ?_)
              obtain ⟨zn_42, eY_42, hP1, hD1, hf42_0, hf42_1, hf42_2⟩ := hB
              rw [ht] at hP1
              obtain ⟨hPn, hDn⟩ := va_join (wr := [(mB, .inl (cS, 131072, .inl eB))]) (w1 := [(oM, .inr (12, [.ref mT, .int zt, .ref mS, .ref mX, .int zp, .int zf, .ref mL, .ref mB, .ref mD, .ref m1, .ref m2, .int zh, .ref mR, .int zr, .ref x1, .ref x2, .ref x3, .int zc, .ref mH, .int zy, .int za, .int zb, .int zs, .int zq, .int zw, .int ze, .ref mY, .int zn_42, .ref mE, .int zm, .int zl, .ref mW, .int zk, .ref mO, .int zd, .ref y1, .ref y2, .ref y3, .ref y4, .ref mZ])), (mY, .inl (cI, 2600, .inl eY_42))]) hP hD [1, 2] [0] rfl rfl (by decide +kernel) (by decide +kernel) hk1 hFc hP1 hD1
              clear hP hD hS hPc hDc hFc hk1 hz1 hvm ht hP1 hD1
              generalize H1 = H at hPn hSn ⊢
              have hP : va_P (dC, dI) vwCl [(mB, .inl (cS, 131072, .inl eB)), (oM, .inr (12, [.ref mT, .int zt, .ref mS, .ref mX, .int zp, .int zf, .ref mL, .ref mB, .ref mD, .ref m1, .ref m2, .int zh, .ref mR, .int zr, .ref x1, .ref x2, .ref x3, .int zc, .ref mH, .int zy, .int za, .int zb, .int zs, .int zq, .int zw, .int ze, .ref mY, .int zn_42, .ref mE, .int zm, .int zl, .ref mW, .int zk, .ref mO, .int zd, .ref y1, .ref y2, .ref y3, .ref y4, .ref mZ])), (mY, .inl (cI, 2600, .inl eY_42))] H := hPn
              have hD : va_D A [(mB, .inl (cS, 131072, .inl eB)), (oM, .inr (12, [.ref mT, .int zt, .ref mS, .ref mX, .int zp, .int zf, .ref mL, .ref mB, .ref mD, .ref m1, .ref m2, .int zh, .ref mR, .int zr, .ref x1, .ref x2, .ref x3, .int zc, .ref mH, .int zy, .int za, .int zb, .int zs, .int zq, .int zw, .int ze, .ref mY, .int zn_42, .ref mE, .int zm, .int zl, .ref mW, .int zk, .ref mO, .int zd, .ref y1, .ref y2, .ref y3, .ref y4, .ref mZ])), (mY, .inl (cI, 2600, .inl eY_42))] := hDn
              have hS := hSn
              clear hPn hDn hSn
              refine lv_iload_n hx hb dX12_writeLetter_201 rfl (lv_at hl 0 rfl) ?_
              refine lv_bipush (v := 10) hx hb dX12_writeLetter_202 (by decide) ?_
              refine lv_idiv hx hb dX12_writeLetter_204 (by decide) ?_
              refine k_i (y := 100) (by decide) ?_
              refine lv_istore_n (lv' := [(3, .int 100), (0, .ref oM), (1, .int cd), (2, .int x)]) hx hb dX12_writeLetter_205 rfl hl (by decide) rfl (fun ls hl => ?_)
              refine lv_goto (tgt := 184) hx hb dX12_writeLetter_206 (by decide) ?_
              refine lv_iload_n hx hb dX12_writeLetter_184 rfl (lv_at hl 0 rfl) ?_
              refine lv_if_le (tgt := 209) hx hb dX12_writeLetter_185 (by decide) (fun c_43 => absurd c_43 (by decide)) (fun c_43 => ?_)
              refine lv_aload_n hx hb dX12_writeLetter_188 rfl (lv_at hl 1 rfl) ?_
              refine lv_bipush (v := 48) hx hb dX12_writeLetter_189 (by decide) ?_
              refine lv_iload_n hx hb dX12_writeLetter_191 rfl (lv_at hl 3 rfl) ?_
              refine lv_iload_n hx hb dX12_writeLetter_192 rfl (lv_at hl 0 rfl) ?_
              refine lv_idiv hx hb dX12_writeLetter_193 (by decide) ?_
              refine lv_topi (fun x_44 ex_44 => ?_)
              have tx_44 : x_44.toInt = x.toInt / 100 := v_div ex_44 (by omega) (by decide)
              refine lv_bipush (v := 10) hx hb dX12_writeLetter_194 (by decide) ?_
              refine lv_irem hx hb dX12_writeLetter_196 (by decide) ?_
              refine lv_topi (fun x_45 ex_45 => ?_)
              have tx_45 : x_45.toInt = x_44.toInt % 10 := v_rem ex_45 (by omega) (by decide)
              refine lv_iadd hx hb dX12_writeLetter_197 ?_
              refine lv_topi (fun x_46 ex_46 => ?_)
              have tx_46 : x_46.toInt = 48 + x_45.toInt := v_add ex_46 (by show -2147483648 ≤ 48 + x_45.toInt; omega) (by show 48 + x_45.toInt < 2147483648; omega)
              have hPc := hP.sub (ws' := [(oM, .inr (12, [.ref mT, .int zt, .ref mS, .ref mX, .int zp, .int zf, .ref mL, .ref mB, .ref mD, .ref m1, .ref m2, .int zh, .ref mR, .int zr, .ref x1, .ref x2, .ref x3, .int zc, .ref mH, .int zy, .int za, .int zb, .int zs, .int zq, .int zw, .int ze, .ref mY, .int zn_42, .ref mE, .int zm, .int zl, .ref mW, .int zk, .ref mO, .int zd, .ref y1, .ref y2, .ref y3, .ref y4, .ref mZ])), (mY, .inl (cI, 2600, .inl eY_42))]) [1, 2] rfl
              have hDc := hD.sub (ws' := [(oM, .inr (12, [.ref mT, .int zt, .ref mS, .ref mX, .int zp, .int zf, .ref mL, .ref mB, .ref mD, .ref m1, .ref m2, .int zh, .ref mR, .int zr, .ref x1, .ref x2, .ref x3, .int zc, .ref mH, .int zy, .int za, .int zb, .int zs, .int zq, .int zw, .int ze, .ref mY, .int zn_42, .ref mE, .int zm, .int zl, .ref mW, .int zk, .ref mO, .int zd, .ref y1, .ref y2, .ref y3, .ref y4, .ref mZ])), (mY, .inl (cI, 2600, .inl eY_42))]) [1, 2] (by decide +kernel) rfl
              have hFc := va_free (wc := [(oM, .inr (12, [.ref mT, .int zt, .ref mS, .ref mX, .int zp, .int zf, .ref mL, .ref mB, .ref mD, .ref m1, .ref m2, .int zh, .ref mR, .int zr, .ref x1, .ref x2, .ref x3, .int zc, .ref mH, .int zy, .int za, .int zb, .int zs, .int zq, .int zw, .int ze, .ref mY, .int zn_42, .ref mE, .int zm, .int zl, .ref mW, .int zk, .ref mO, .int zd, .ref y1, .ref y2, .ref y3, .ref y4, .ref mZ])), (mY, .inl (cI, 2600, .inl eY_42))]) hD hS hA [1, 2] rfl
              refine va_callv (va_runV (As := [.int x_46]) (rest := []) ⟨hx, hb, hml, hown, hts⟩ (m_X12_put l dC dI cI cS H.size oM mT mS mX mL mB mD m1 m2 mR x1 x2 x3 mH mY mE mW mO y1 y2 y3 y4 mZ zt zp zf zh zr zc zy za zb zs zq zw ze zn_42 zm zl zk zd eY_42 x_46 (g_zt) (g_zp) (g_zf) (g_zh) (g_zr) (g_zc) (g_zy) (g_za) (g_zb) (g_zs) (g_zq) (hf42_0) (g_zm) (g_zk) (hf42_1) (by omega) (by omega)) (cwV 1 hts gX12_writeLetter_X12_put rfl rfl rfl (by decide +kernel) ⟨Nat.le_of_ble_eq_true rfl, Nat.le_of_ble_eq_true rfl⟩) ⟨fun a U g mk q => by obtain ⟨q0, q1, qP, qK, qD⟩ := q; exact ⟨q0, q1, qP, va_K.moved (u := U) (U := U.calling g mk a) (Vm.Alike.refl U.vm) qK, qD⟩, va_recv hK hPc (ci := 12) (q0 := 0) rfl rfl, fun U hU hW => ⟨rfl, by rw [hU], by rw [hU]; exact hPc, va_K.moved hW.alike hK, hDc.weaken (fun _ _ _ _ => trivial)⟩⟩ rfl rfl hl.1 rfl (lv_room (Nat.le_of_ble_eq_true rfl)) dX12_writeLetter_198 ⟨Nat.le_of_ble_eq_true rfl, Nat.le_of_ble_eq_true rfl⟩) hS (fun q _ h => hFc q h) hFc (fun u t H1 locs ht hvm hw hB hz1 hk1 hSn => ?_)
              obtain ⟨zn_47, eY_47, hP1, hD1, hf47_0, hf47_1, hf47_2⟩ := hB
              rw [ht] at hP1
              obtain ⟨hPn, hDn⟩ := va_join (wr := [(mB, .inl (cS, 131072, .inl eB))]) (w1 := [(oM, .inr (12, [.ref mT, .int zt, .ref mS, .ref mX, .int zp, .int zf, .ref mL, .ref mB, .ref mD, .ref m1, .ref m2, .int zh, .ref mR, .int zr, .ref x1, .ref x2, .ref x3, .int zc, .ref mH, .int zy, .int za, .int zb, .int zs, .int zq, .int zw, .int ze, .ref mY, .int zn_47, .ref mE, .int zm, .int zl, .ref mW, .int zk, .ref mO, .int zd, .ref y1, .ref y2, .ref y3, .ref y4, .ref mZ])), (mY, .inl (cI, 2600, .inl eY_47))]) hP hD [1, 2] [0] rfl rfl (by decide +kernel) (by decide +kernel) hk1 hFc hP1 hD1
              clear hP hD hS hPc hDc hFc hk1 hz1 hvm ht hP1 hD1
              generalize H1 = H at hPn hSn ⊢
              have hP : va_P (dC, dI) vwCl [(mB, .inl (cS, 131072, .inl eB)), (oM, .inr (12, [.ref mT, .int zt, .ref mS, .ref mX, .int zp, .int zf, .ref mL, .ref mB, .ref mD, .ref m1, .ref m2, .int zh, .ref mR, .int zr, .ref x1, .ref x2, .ref x3, .int zc, .ref mH, .int zy, .int za, .int zb, .int zs, .int zq, .int zw, .int ze, .ref mY, .int zn_47, .ref mE, .int zm, .int zl, .ref mW, .int zk, .ref mO, .int zd, .ref y1, .ref y2, .ref y3, .ref y4, .ref mZ])), (mY, .inl (cI, 2600, .inl eY_47))] H := hPn
              have hD : va_D A [(mB, .inl (cS, 131072, .inl eB)), (oM, .inr (12, [.ref mT, .int zt, .ref mS, .ref mX, .int zp, .int zf, .ref mL, .ref mB, .ref mD, .ref m1, .ref m2, .int zh, .ref mR, .int zr, .ref x1, .ref x2, .ref x3, .int zc, .ref mH, .int zy, .int za, .int zb, .int zs, .int zq, .int zw, .int ze, .ref mY, .int zn_47, .ref mE, .int zm, .int zl, .ref mW, .int zk, .ref mO, .int zd, .ref y1, .ref y2, .ref y3, .ref y4, .ref mZ])), (mY, .inl (cI, 2600, .inl eY_47))] := hDn
              have hS := hSn
              clear hPn hDn hSn
              refine lv_iload_n hx hb dX12_writeLetter_201 rfl (lv_at hl 0 rfl) ?_
              refine lv_bipush (v := 10) hx hb dX12_writeLetter_202 (by decide) ?_
              refine lv_idiv hx hb dX12_writeLetter_204 (by decide) ?_
              refine k_i (y := 10) (by decide) ?_
              refine lv_istore_n (lv' := [(3, .int 10), (0, .ref oM), (1, .int cd), (2, .int x)]) hx hb dX12_writeLetter_205 rfl hl (by decide) rfl (fun ls hl => ?_)
              refine lv_goto (tgt := 184) hx hb dX12_writeLetter_206 (by decide) ?_
              refine lv_iload_n hx hb dX12_writeLetter_184 rfl (lv_at hl 0 rfl) ?_
              refine lv_if_le (tgt := 209) hx hb dX12_writeLetter_185 (by decide) (fun c_48 => absurd c_48 (by decide)) (fun c_48 => ?_)
              refine lv_aload_n hx hb dX12_writeLetter_188 rfl (lv_at hl 1 rfl) ?_
              refine lv_bipush (v := 48) hx hb dX12_writeLetter_189 (by decide) ?_
              refine lv_iload_n hx hb dX12_writeLetter_191 rfl (lv_at hl 3 rfl) ?_
              refine lv_iload_n hx hb dX12_writeLetter_192 rfl (lv_at hl 0 rfl) ?_
              refine lv_idiv hx hb dX12_writeLetter_193 (by decide) ?_
              refine lv_topi (fun x_49 ex_49 => ?_)
              have tx_49 : x_49.toInt = x.toInt / 10 := v_div ex_49 (by omega) (by decide)
              refine lv_bipush (v := 10) hx hb dX12_writeLetter_194 (by decide) ?_
              refine lv_irem hx hb dX12_writeLetter_196 (by decide) ?_
              refine lv_topi (fun x_50 ex_50 => ?_)
              have tx_50 : x_50.toInt = x_49.toInt % 10 := v_rem ex_50 (by omega) (by decide)
              refine lv_iadd hx hb dX12_writeLetter_197 ?_
              refine lv_topi (fun x_51 ex_51 => ?_)
              have tx_51 : x_51.toInt = 48 + x_50.toInt := v_add ex_51 (by show -2147483648 ≤ 48 + x_50.toInt; omega) (by show 48 + x_50.toInt < 2147483648; omega)
              have hPc := hP.sub (ws' := [(oM, .inr (12, [.ref mT, .int zt, .ref mS, .ref mX, .int zp, .int zf, .ref mL, .ref mB, .ref mD, .ref m1, .ref m2, .int zh, .ref mR, .int zr, .ref x1, .ref x2, .ref x3, .int zc, .ref mH, .int zy, .int za, .int zb, .int zs, .int zq, .int zw, .int ze, .ref mY, .int zn_47, .ref mE, .int zm, .int zl, .ref mW, .int zk, .ref mO, .int zd, .ref y1, .ref y2, .ref y3, .ref y4, .ref mZ])), (mY, .inl (cI, 2600, .inl eY_47))]) [1, 2] rfl
              have hDc := hD.sub (ws' := [(oM, .inr (12, [.ref mT, .int zt, .ref mS, .ref mX, .int zp, .int zf, .ref mL, .ref mB, .ref mD, .ref m1, .ref m2, .int zh, .ref mR, .int zr, .ref x1, .ref x2, .ref x3, .int zc, .ref mH, .int zy, .int za, .int zb, .int zs, .int zq, .int zw, .int ze, .ref mY, .int zn_47, .ref mE, .int zm, .int zl, .ref mW, .int zk, .ref mO, .int zd, .ref y1, .ref y2, .ref y3, .ref y4, .ref mZ])), (mY, .inl (cI, 2600, .inl eY_47))]) [1, 2] (by decide +kernel) rfl
              have hFc := va_free (wc := [(oM, .inr (12, [.ref mT, .int zt, .ref mS, .ref mX, .int zp, .int zf, .ref mL, .ref mB, .ref mD, .ref m1, .ref m2, .int zh, .ref mR, .int zr, .ref x1, .ref x2, .ref x3, .int zc, .ref mH, .int zy, .int za, .int zb, .int zs, .int zq, .int zw, .int ze, .ref mY, .int zn_47, .ref mE, .int zm, .int zl, .ref mW, .int zk, .ref mO, .int zd, .ref y1, .ref y2, .ref y3, .ref y4, .ref mZ])), (mY, .inl (cI, 2600, .inl eY_47))]) hD hS hA [1, 2] rfl
              refine va_callv (va_runV (As := [.int x_51]) (rest := []) ⟨hx, hb, hml, hown, hts⟩ (m_X12_put l dC dI cI cS H.size oM mT mS mX mL mB mD m1 m2 mR x1 x2 x3 mH mY mE mW mO y1 y2 y3 y4 mZ zt zp zf zh zr zc zy za zb zs zq zw ze zn_47 zm zl zk zd eY_47 x_51 (g_zt) (g_zp) (g_zf) (g_zh) (g_zr) (g_zc) (g_zy) (g_za) (g_zb) (g_zs) (g_zq) (hf47_0) (g_zm) (g_zk) (hf47_1) (by omega) (by omega)) (cwV 1 hts gX12_writeLetter_X12_put rfl rfl rfl (by decide +kernel) ⟨Nat.le_of_ble_eq_true rfl, Nat.le_of_ble_eq_true rfl⟩) ⟨fun a U g mk q => by obtain ⟨q0, q1, qP, qK, qD⟩ := q; exact ⟨q0, q1, qP, va_K.moved (u := U) (U := U.calling g mk a) (Vm.Alike.refl U.vm) qK, qD⟩, va_recv hK hPc (ci := 12) (q0 := 0) rfl rfl, fun U hU hW => ⟨rfl, by rw [hU], by rw [hU]; exact hPc, va_K.moved hW.alike hK, hDc.weaken (fun _ _ _ _ => trivial)⟩⟩ rfl rfl hl.1 rfl (lv_room (Nat.le_of_ble_eq_true rfl)) dX12_writeLetter_198 ⟨Nat.le_of_ble_eq_true rfl, Nat.le_of_ble_eq_true rfl⟩) hS (fun q _ h => hFc q h) hFc (fun u t H1 locs ht hvm hw hB hz1 hk1 hSn => ?_)
              obtain ⟨zn_52, eY_52, hP1, hD1, hf52_0, hf52_1, hf52_2⟩ := hB
              rw [ht] at hP1
              obtain ⟨hPn, hDn⟩ := va_join (wr := [(mB, .inl (cS, 131072, .inl eB))]) (w1 := [(oM, .inr (12, [.ref mT, .int zt, .ref mS, .ref mX, .int zp, .int zf, .ref mL, .ref mB, .ref mD, .ref m1, .ref m2, .int zh, .ref mR, .int zr, .ref x1, .ref x2, .ref x3, .int zc, .ref mH, .int zy, .int za, .int zb, .int zs, .int zq, .int zw, .int ze, .ref mY, .int zn_52, .ref mE, .int zm, .int zl, .ref mW, .int zk, .ref mO, .int zd, .ref y1, .ref y2, .ref y3, .ref y4, .ref mZ])), (mY, .inl (cI, 2600, .inl eY_52))]) hP hD [1, 2] [0] rfl rfl (by decide +kernel) (by decide +kernel) hk1 hFc hP1 hD1
              clear hP hD hS hPc hDc hFc hk1 hz1 hvm ht hP1 hD1
              generalize H1 = H at hPn hSn ⊢
              have hP : va_P (dC, dI) vwCl [(mB, .inl (cS, 131072, .inl eB)), (oM, .inr (12, [.ref mT, .int zt, .ref mS, .ref mX, .int zp, .int zf, .ref mL, .ref mB, .ref mD, .ref m1, .ref m2, .int zh, .ref mR, .int zr, .ref x1, .ref x2, .ref x3, .int zc, .ref mH, .int zy, .int za, .int zb, .int zs, .int zq, .int zw, .int ze, .ref mY, .int zn_52, .ref mE, .int zm, .int zl, .ref mW, .int zk, .ref mO, .int zd, .ref y1, .ref y2, .ref y3, .ref y4, .ref mZ])), (mY, .inl (cI, 2600, .inl eY_52))] H := hPn
              have hD : va_D A [(mB, .inl (cS, 131072, .inl eB)), (oM, .inr (12, [.ref mT, .int zt, .ref mS, .ref mX, .int zp, .int zf, .ref mL, .ref mB, .ref mD, .ref m1, .ref m2, .int zh, .ref mR, .int zr, .ref x1, .ref x2, .ref x3, .int zc, .ref mH, .int zy, .int za, .int zb, .int zs, .int zq, .int zw, .int ze, .ref mY, .int zn_52, .ref mE, .int zm, .int zl, .ref mW, .int zk, .ref mO, .int zd, .ref y1, .ref y2, .ref y3, .ref y4, .ref mZ])), (mY, .inl (cI, 2600, .inl eY_52))] := hDn
              have hS := hSn
              clear hPn hDn hSn
              refine lv_iload_n hx hb dX12_writeLetter_201 rfl (lv_at hl 0 rfl) ?_
              refine lv_bipush (v := 10) hx hb dX12_writeLetter_202 (by decide) ?_
              refine lv_idiv hx hb dX12_writeLetter_204 (by decide) ?_
              refine k_i (y := 1) (by decide) ?_
              refine lv_istore_n (lv' := [(3, .int 1), (0, .ref oM), (1, .int cd), (2, .int x)]) hx hb dX12_writeLetter_205 rfl hl (by decide) rfl (fun ls hl => ?_)
              refine lv_goto (tgt := 184) hx hb dX12_writeLetter_206 (by decide) ?_
              refine lv_iload_n hx hb dX12_writeLetter_184 rfl (lv_at hl 0 rfl) ?_
              refine lv_if_le (tgt := 209) hx hb dX12_writeLetter_185 (by decide) (fun c_53 => absurd c_53 (by decide)) (fun c_53 => ?_)
              refine lv_aload_n hx hb dX12_writeLetter_188 rfl (lv_at hl 1 rfl) ?_
              refine lv_bipush (v := 48) hx hb dX12_writeLetter_189 (by decide) ?_
              refine lv_iload_n hx hb dX12_writeLetter_191 rfl (lv_at hl 3 rfl) ?_
              refine lv_iload_n hx hb dX12_writeLetter_192 rfl (lv_at hl 0 rfl) ?_
              refine lv_idiv hx hb dX12_writeLetter_193 (by decide) ?_
              refine lv_topi (fun x_54 ex_54 => ?_)
              have tx_54 : x_54.toInt = x.toInt / 1 := v_div ex_54 (by omega) (by decide)
              refine lv_bipush (v := 10) hx hb dX12_writeLetter_194 (by decide) ?_
              refine lv_irem hx hb dX12_writeLetter_196 (by decide) ?_
              refine lv_topi (fun x_55 ex_55 => ?_)
              have tx_55 : x_55.toInt = x_54.toInt % 10 := v_rem ex_55 (by omega) (by decide)
              refine lv_iadd hx hb dX12_writeLetter_197 ?_
              refine lv_topi (fun x_56 ex_56 => ?_)
              have tx_56 : x_56.toInt = 48 + x_55.toInt := v_add ex_56 (by show -2147483648 ≤ 48 + x_55.toInt; omega) (by show 48 + x_55.toInt < 2147483648; omega)
              have hPc := hP.sub (ws' := [(oM, .inr (12, [.ref mT, .int zt, .ref mS, .ref mX, .int zp, .int zf, .ref mL, .ref mB, .ref mD, .ref m1, .ref m2, .int zh, .ref mR, .int zr, .ref x1, .ref x2, .ref x3, .int zc, .ref mH, .int zy, .int za, .int zb, .int zs, .int zq, .int zw, .int ze, .ref mY, .int zn_52, .ref mE, .int zm, .int zl, .ref mW, .int zk, .ref mO, .int zd, .ref y1, .ref y2, .ref y3, .ref y4, .ref mZ])), (mY, .inl (cI, 2600, .inl eY_52))]) [1, 2] rfl
              have hDc := hD.sub (ws' := [(oM, .inr (12, [.ref mT, .int zt, .ref mS, .ref mX, .int zp, .int zf, .ref mL, .ref mB, .ref mD, .ref m1, .ref m2, .int zh, .ref mR, .int zr, .ref x1, .ref x2, .ref x3, .int zc, .ref mH, .int zy, .int za, .int zb, .int zs, .int zq, .int zw, .int ze, .ref mY, .int zn_52, .ref mE, .int zm, .int zl, .ref mW, .int zk, .ref mO, .int zd, .ref y1, .ref y2, .ref y3, .ref y4, .ref mZ])), (mY, .inl (cI, 2600, .inl eY_52))]) [1, 2] (by decide +kernel) rfl
              have hFc := va_free (wc := [(oM, .inr (12, [.ref mT, .int zt, .ref mS, .ref mX, .int zp, .int zf, .ref mL, .ref mB, .ref mD, .ref m1, .ref m2, .int zh, .ref mR, .int zr, .ref x1, .ref x2, .ref x3, .int zc, .ref mH, .int zy, .int za, .int zb, .int zs, .int zq, .int zw, .int ze, .ref mY, .int zn_52, .ref mE, .int zm, .int zl, .ref mW, .int zk, .ref mO, .int zd, .ref y1, .ref y2, .ref y3, .ref y4, .ref mZ])), (mY, .inl (cI, 2600, .inl eY_52))]) hD hS hA [1, 2] rfl
              refine va_callv (va_runV (As := [.int x_56]) (rest := []) ⟨hx, hb, hml, hown, hts⟩ (m_X12_put l dC dI cI cS H.size oM mT mS mX mL mB mD m1 m2 mR x1 x2 x3 mH mY mE mW mO y1 y2 y3 y4 mZ zt zp zf zh zr zc zy za zb zs zq zw ze zn_52 zm zl zk zd eY_52 x_56 (g_zt) (g_zp) (g_zf) (g_zh) (g_zr) (g_zc) (g_zy) (g_za) (g_zb) (g_zs) (g_zq) (hf52_0) (g_zm) (g_zk) (hf52_1) (by omega) (by omega)) (cwV 1 hts gX12_writeLetter_X12_put rfl rfl rfl (by decide +kernel) ⟨Nat.le_of_ble_eq_true rfl, Nat.le_of_ble_eq_true rfl⟩) ⟨fun a U g mk q => by obtain ⟨q0, q1, qP, qK, qD⟩ := q; exact ⟨q0, q1, qP, va_K.moved (u := U) (U := U.calling g mk a) (Vm.Alike.refl U.vm) qK, qD⟩, va_recv hK hPc (ci := 12) (q0 := 0) rfl rfl, fun U hU hW => ⟨rfl, by rw [hU], by rw [hU]; exact hPc, va_K.moved hW.alike hK, hDc.weaken (fun _ _ _ _ => trivial)⟩⟩ rfl rfl hl.1 rfl (lv_room (Nat.le_of_ble_eq_true rfl)) dX12_writeLetter_198 ⟨Nat.le_of_ble_eq_true rfl, Nat.le_of_ble_eq_true rfl⟩) hS (fun q _ h => hFc q h) hFc (fun u t H1 locs ht hvm hw hB hz1 hk1 hSn => ?_)
              obtain ⟨zn_57, eY_57, hP1, hD1, hf57_0, hf57_1, hf57_2⟩ := hB
              rw [ht] at hP1
              obtain ⟨hPn, hDn⟩ := va_join (wr := [(mB, .inl (cS, 131072, .inl eB))]) (w1 := [(oM, .inr (12, [.ref mT, .int zt, .ref mS, .ref mX, .int zp, .int zf, .ref mL, .ref mB, .ref mD, .ref m1, .ref m2, .int zh, .ref mR, .int zr, .ref x1, .ref x2, .ref x3, .int zc, .ref mH, .int zy, .int za, .int zb, .int zs, .int zq, .int zw, .int ze, .ref mY, .int zn_57, .ref mE, .int zm, .int zl, .ref mW, .int zk, .ref mO, .int zd, .ref y1, .ref y2, .ref y3, .ref y4, .ref mZ])), (mY, .inl (cI, 2600, .inl eY_57))]) hP hD [1, 2] [0] rfl rfl (by decide +kernel) (by decide +kernel) hk1 hFc hP1 hD1
              clear hP hD hS hPc hDc hFc hk1 hz1 hvm ht hP1 hD1
              generalize H1 = H at hPn hSn ⊢
              have hP : va_P (dC, dI) vwCl [(mB, .inl (cS, 131072, .inl eB)), (oM, .inr (12, [.ref mT, .int zt, .ref mS, .ref mX, .int zp, .int zf, .ref mL, .ref mB, .ref mD, .ref m1, .ref m2, .int zh, .ref mR, .int zr, .ref x1, .ref x2, .ref x3, .int zc, .ref mH, .int zy, .int za, .int zb, .int zs, .int zq, .int zw, .int ze, .ref mY, .int zn_57, .ref mE, .int zm, .int zl, .ref mW, .int zk, .ref mO, .int zd, .ref y1, .ref y2, .ref y3, .ref y4, .ref mZ])), (mY, .inl (cI, 2600, .inl eY_57))] H := hPn
              have hD : va_D A [(mB, .inl (cS, 131072, .inl eB)), (oM, .inr (12, [.ref mT, .int zt, .ref mS, .ref mX, .int zp, .int zf, .ref mL, .ref mB, .ref mD, .ref m1, .ref m2, .int zh, .ref mR, .int zr, .ref x1, .ref x2, .ref x3, .int zc, .ref mH, .int zy, .int za, .int zb, .int zs, .int zq, .int zw, .int ze, .ref mY, .int zn_57, .ref mE, .int zm, .int zl, .ref mW, .int zk, .ref mO, .int zd, .ref y1, .ref y2, .ref y3, .ref y4, .ref mZ])), (mY, .inl (cI, 2600, .inl eY_57))] := hDn
              have hS := hSn
              clear hPn hDn hSn
              refine lv_iload_n hx hb dX12_writeLetter_201 rfl (lv_at hl 0 rfl) ?_
              refine lv_bipush (v := 10) hx hb dX12_writeLetter_202 (by decide) ?_
              refine lv_idiv hx hb dX12_writeLetter_204 (by decide) ?_
              refine k_i (y := 0) (by decide) ?_
              refine lv_istore_n (lv' := [(3, .int 0), (0, .ref oM), (1, .int cd), (2, .int x)]) hx hb dX12_writeLetter_205 rfl hl (by decide) rfl (fun ls hl => ?_)
              refine lv_goto (tgt := 184) hx hb dX12_writeLetter_206 (by decide) ?_
              refine lv_iload_n hx hb dX12_writeLetter_184 rfl (lv_at hl 0 rfl) ?_
              refine lv_if_le (tgt := 209) hx hb dX12_writeLetter_185 (by decide) (fun c_58 => ?_) (fun c_58 => absurd c_58 (by decide))
              refine lv_aload_n hx hb dX12_writeLetter_209 rfl (lv_at hl 1 rfl) ?_
              refine lv_bipush (v := 59) hx hb dX12_writeLetter_210 (by decide) ?_
              have hPc := hP.sub (ws' := [(oM, .inr (12, [.ref mT, .int zt, .ref mS, .ref mX, .int zp, .int zf, .ref mL, .ref mB, .ref mD, .ref m1, .ref m2, .int zh, .ref mR, .int zr, .ref x1, .ref x2, .ref x3, .int zc, .ref mH, .int zy, .int za, .int zb, .int zs, .int zq, .int zw, .int ze, .ref mY, .int zn_57, .ref mE, .int zm, .int zl, .ref mW, .int zk, .ref mO, .int zd, .ref y1, .ref y2, .ref y3, .ref y4, .ref mZ])), (mY, .inl (cI, 2600, .inl eY_57))]) [1, 2] rfl
              have hDc := hD.sub (ws' := [(oM, .inr (12, [.ref mT, .int zt, .ref mS, .ref mX, .int zp, .int zf, .ref mL, .ref mB, .ref mD, .ref m1, .ref m2, .int zh, .ref mR, .int zr, .ref x1, .ref x2, .ref x3, .int zc, .ref mH, .int zy, .int za, .int zb, .int zs, .int zq, .int zw, .int ze, .ref mY, .int zn_57, .ref mE, .int zm, .int zl, .ref mW, .int zk, .ref mO, .int zd, .ref y1, .ref y2, .ref y3, .ref y4, .ref mZ])), (mY, .inl (cI, 2600, .inl eY_57))]) [1, 2] (by decide +kernel) rfl
              have hFc := va_free (wc := [(oM, .inr (12, [.ref mT, .int zt, .ref mS, .ref mX, .int zp, .int zf, .ref mL, .ref mB, .ref mD, .ref m1, .ref m2, .int zh, .ref mR, .int zr, .ref x1, .ref x2, .ref x3, .int zc, .ref mH, .int zy, .int za, .int zb, .int zs, .int zq, .int zw, .int ze, .ref mY, .int zn_57, .ref mE, .int zm, .int zl, .ref mW, .int zk, .ref mO, .int zd, .ref y1, .ref y2, .ref y3, .ref y4, .ref mZ])), (mY, .inl (cI, 2600, .inl eY_57))]) hD hS hA [1, 2] rfl
              refine va_callv (va_runV (As := [.int 59]) (rest := []) ⟨hx, hb, hml, hown, hts⟩ (m_X12_put l dC dI cI cS H.size oM mT mS mX mL mB mD m1 m2 mR x1 x2 x3 mH mY mE mW mO y1 y2 y3 y4 mZ zt zp zf zh zr zc zy za zb zs zq zw ze zn_57 zm zl zk zd eY_57 59 (g_zt) (g_zp) (g_zf) (g_zh) (g_zr) (g_zc) (g_zy) (g_za) (g_zb) (g_zs) (g_zq) (hf57_0) (g_zm) (g_zk) (hf57_1) (by decide) (by omega)) (cwV 1 hts gX12_writeLetter_X12_put rfl rfl rfl (by decide +kernel) ⟨Nat.le_of_ble_eq_true rfl, Nat.le_of_ble_eq_true rfl⟩) ⟨fun a U g mk q => by obtain ⟨q0, q1, qP, qK, qD⟩ := q; exact ⟨q0, q1, qP, va_K.moved (u := U) (U := U.calling g mk a) (Vm.Alike.refl U.vm) qK, qD⟩, va_recv hK hPc (ci := 12) (q0 := 0) rfl rfl, fun U hU hW => ⟨rfl, by rw [hU], by rw [hU]; exact hPc, va_K.moved hW.alike hK, hDc.weaken (fun _ _ _ _ => trivial)⟩⟩ rfl rfl hl.1 rfl (lv_room (Nat.le_of_ble_eq_true rfl)) dX12_writeLetter_212 ⟨Nat.le_of_ble_eq_true rfl, Nat.le_of_ble_eq_true rfl⟩) hS (fun q _ h => hFc q h) hFc (fun u t H1 locs ht hvm hw hB hz1 hk1 hSn => ?_)
              obtain ⟨zn_59, eY_59, hP1, hD1, hf59_0, hf59_1, hf59_2⟩ := hB
              rw [ht] at hP1
              obtain ⟨hPn, hDn⟩ := va_join (wr := [(mB, .inl (cS, 131072, .inl eB))]) (w1 := [(oM, .inr (12, [.ref mT, .int zt, .ref mS, .ref mX, .int zp, .int zf, .ref mL, .ref mB, .ref mD, .ref m1, .ref m2, .int zh, .ref mR, .int zr, .ref x1, .ref x2, .ref x3, .int zc, .ref mH, .int zy, .int za, .int zb, .int zs, .int zq, .int zw, .int ze, .ref mY, .int zn_59, .ref mE, .int zm, .int zl, .ref mW, .int zk, .ref mO, .int zd, .ref y1, .ref y2, .ref y3, .ref y4, .ref mZ])), (mY, .inl (cI, 2600, .inl eY_59))]) hP hD [1, 2] [0] rfl rfl (by decide +kernel) (by decide +kernel) hk1 hFc hP1 hD1
              clear hP hD hS hPc hDc hFc hk1 hz1 hvm ht hP1 hD1
              generalize H1 = H at hPn hSn ⊢
              have hP : va_P (dC, dI) vwCl [(mB, .inl (cS, 131072, .inl eB)), (oM, .inr (12, [.ref mT, .int zt, .ref mS, .ref mX, .int zp, .int zf, .ref mL, .ref mB, .ref mD, .ref m1, .ref m2, .int zh, .ref mR, .int zr, .ref x1, .ref x2, .ref x3, .int zc, .ref mH, .int zy, .int za, .int zb, .int zs, .int zq, .int zw, .int ze, .ref mY, .int zn_59, .ref mE, .int zm, .int zl, .ref mW, .int zk, .ref mO, .int zd, .ref y1, .ref y2, .ref y3, .ref y4, .ref mZ])), (mY, .inl (cI, 2600, .inl eY_59))] H := hPn
              have hD : va_D A [(mB, .inl (cS, 131072, .inl eB)), (oM, .inr (12, [.ref mT, .int zt, .ref mS, .ref mX, .int zp, .int zf, .ref mL, .ref mB, .ref mD, .ref m1, .ref m2, .int zh, .ref mR, .int zr, .ref x1, .ref x2, .ref x3, .int zc, .ref mH, .int zy, .int za, .int zb, .int zs, .int zq, .int zw, .int ze, .ref mY, .int zn_59, .ref mE, .int zm, .int zl, .ref mW, .int zk, .ref mO, .int zd, .ref y1, .ref y2, .ref y3, .ref y4, .ref mZ])), (mY, .inl (cI, 2600, .inl eY_59))] := hDn
              have hS := hSn
              clear hPn hDn hSn
              refine lv_goto (tgt := 244) hx hb dX12_writeLetter_215 (by decide) ?_
              refine lv_iconst (v := 1) hx hb dX12_writeLetter_244 (by decide) ?_
              have hP9 := hP.sub (ws' := [(oM, .inr (12, [.ref mT, .int zt, .ref mS, .ref mX, .int zp, .int zf, .ref mL, .ref mB, .ref mD, .ref m1, .ref m2, .int zh, .ref mR, .int zr, .ref x1, .ref x2, .ref x3, .int zc, .ref mH, .int zy, .int za, .int zb, .int zs, .int zq, .int zw, .int ze, .ref mY, .int zn_59, .ref mE, .int zm, .int zl, .ref mW, .int zk, .ref mO, .int zd, .ref y1, .ref y2, .ref y3, .ref y4, .ref mZ])), (mY, .inl (cI, 2600, .inl eY_59)), (mB, .inl (cS, 131072, .inl eB))]) [1, 2, 0] rfl
              have hD9 := hD.sub (ws' := [(oM, .inr (12, [.ref mT, .int zt, .ref mS, .ref mX, .int zp, .int zf, .ref mL, .ref mB, .ref mD, .ref m1, .ref m2, .int zh, .ref mR, .int zr, .ref x1, .ref x2, .ref x3, .int zc, .ref mH, .int zy, .int za, .int zb, .int zs, .int zq, .int zw, .int ze, .ref mY, .int zn_59, .ref mE, .int zm, .int zl, .ref mW, .int zk, .ref mO, .int zd, .ref y1, .ref y2, .ref y3, .ref y4, .ref mZ])), (mY, .inl (cI, 2600, .inl eY_59)), (mB, .inl (cS, 131072, .inl eB))]) [1, 2, 0] (by decide +kernel) rfl
              rw [hQQ]
              exact W.zret (v := 1) (ty := .boolean) hx hb hr (rfl) (fun t ht hW => ⟨⟨1, 1, rfl, rfl, ⟨zn_59, eY_59, by rw [ht]; exact hP9, hD9, hf59_0, hf59_1, by decide, by show zn_59.toInt ≤ zn.toInt + 8; omega⟩⟩, hS.F ht⟩) hS.2.2 dX12_writeLetter_245
            · have tc_37 : 10 ≤ x_36.toInt := v_nlt c_37
              refine lv_iload_n hx hb dX12_writeLetter_176 rfl (lv_at hl 0 rfl) ?_
              refine lv_bipush (v := 10) hx hb dX12_writeLetter_177 (by decide) ?_
              refine lv_imul hx hb dX12_writeLetter_179 ?_
              refine k_i (y := 10000) (by decide) ?_
              refine lv_istore_n (lv' := [(3, .int 10000), (0, .ref oM), (1, .int cd), (2, .int x)]) hx hb dX12_writeLetter_180 rfl hl (by decide) rfl (fun ls hl => ?_)
              refine lv_goto (tgt := 168) hx hb dX12_writeLetter_181 (by decide) ?_
              refine lv_iload_n hx hb dX12_writeLetter_168 rfl (lv_at hl 3 rfl) ?_
              refine lv_iload_n hx hb dX12_writeLetter_169 rfl (lv_at hl 0 rfl) ?_
              refine lv_idiv hx hb dX12_writeLetter_170 (by decide) ?_
              refine lv_topi (fun x_60 ex_60 => ?_)
              have tx_60 : x_60.toInt = x.toInt / 10000 := v_div ex_60 (by omega) (by decide)
              refine lv_bipush (v := 10) hx hb dX12_writeLetter_171 (by decide) ?_
              refine lv_icmp_lt (tgt := 184) hx hb dX12_writeLetter_173 (by decide) (fun c_61 => ?_) (fun c_61 => by exfalso; have tc_61 : 10 ≤ x_60.toInt := v_nlt c_61; omega)
              have tc_61 : x_60.toInt < 10 := v_lt c_61
              refine lv_iload_n hx hb dX12_writeLetter_184 rfl (lv_at hl 0 rfl) ?_
              refine lv_if_le (tgt := 209) hx hb dX12_writeLetter_185 (by decide) (fun c_62 => absurd c_62 (by decide)) (fun c_62 => ?_)
              refine lv_aload_n hx hb dX12_writeLetter_188 rfl (lv_at hl 1 rfl) ?_
              refine lv_bipush (v := 48) hx hb dX12_writeLetter_189 (by decide) ?_
              refine lv_iload_n hx hb dX12_writeLetter_191 rfl (lv_at hl 3 rfl) ?_
              refine lv_iload_n hx hb dX12_writeLetter_192 rfl (lv_at hl 0 rfl) ?_
              refine lv_idiv hx hb dX12_writeLetter_193 (by decide) ?_
              refine lv_topi (fun x_63 ex_63 => ?_)
              have tx_63 : x_63.toInt = x.toInt / 10000 := v_div ex_63 (by omega) (by decide)
              refine lv_bipush (v := 10) hx hb dX12_writeLetter_194 (by decide) ?_
              refine lv_irem hx hb dX12_writeLetter_196 (by decide) ?_
              refine lv_topi (fun x_64 ex_64 => ?_)
              have tx_64 : x_64.toInt = x_63.toInt % 10 := v_rem ex_64 (by omega) (by decide)
              refine lv_iadd hx hb dX12_writeLetter_197 ?_
              refine lv_topi (fun x_65 ex_65 => ?_)
              have tx_65 : x_65.toInt = 48 + x_64.toInt := v_add ex_65 (by show -2147483648 ≤ 48 + x_64.toInt; omega) (by show 48 + x_64.toInt < 2147483648; omega)
              have hPc := hP.sub (ws' := [(oM, .inr (12, [.ref mT, .int zt, .ref mS, .ref mX, .int zp, .int zf, .ref mL, .ref mB, .ref mD, .ref m1, .ref m2, .int zh, .ref mR, .int zr, .ref x1, .ref x2, .ref x3, .int zc, .ref mH, .int zy, .int za, .int zb, .int zs, .int zq, .int zw, .int ze, .ref mY, .int zn_12, .ref mE, .int zm, .int zl, .ref mW, .int zk, .ref mO, .int zd, .ref y1, .ref y2, .ref y3, .ref y4, .ref mZ])), (mY, .inl (cI, 2600, .inl eY_12))]) [1, 2] rfl
              have hDc := hD.sub (ws' := [(oM, .inr (12, [.ref mT, .int zt, .ref mS, .ref mX, .int zp, .int zf, .ref mL, .ref mB, .ref mD, .ref m1, .ref m2, .int zh, .ref mR, .int zr, .ref x1, .ref x2, .ref x3, .int zc, .ref mH, .int zy, .int za, .int zb, .int zs, .int zq, .int zw, .int ze, .ref mY, .int zn_12, .ref mE, .int zm, .int zl, .ref mW, .int zk, .ref mO, .int zd, .ref y1, .ref y2, .ref y3, .ref y4, .ref mZ])), (mY, .inl (cI, 2600, .inl eY_12))]) [1, 2] (by decide +kernel) rfl
              have hFc := va_free (wc := [(oM, .inr (12, [.ref mT, .int zt, .ref mS, .ref mX, .int zp, .int zf, .ref mL, .ref mB, .ref mD, .ref m1, .ref m2, .int zh, .ref mR, .int zr, .ref x1, .ref x2, .ref x3, .int zc, .ref mH, .int zy, .int za, .int zb, .int zs, .int zq, .int zw, .int ze, .ref mY, .int zn_12, .ref mE, .int zm, .int zl, .ref mW, .int zk, .ref mO, .int zd, .ref y1, .ref y2, .ref y3, .ref y4, .ref mZ])), (mY, .inl (cI, 2600, .inl eY_12))]) hD hS hA [1, 2] rfl
              refine va_callv (va_runV (As := [.int x_65]) (rest := []) ⟨hx, hb, hml, hown, hts⟩ (m_X12_put l dC dI cI cS H.size oM mT mS mX mL mB mD m1 m2 mR x1 x2 x3 mH mY mE mW mO y1 y2 y3 y4 mZ zt zp zf zh zr zc zy za zb zs zq zw ze zn_12 zm zl zk zd eY_12 x_65 (g_zt) (g_zp) (g_zf) (g_zh) (g_zr) (g_zc) (g_zy) (g_za) (g_zb) (g_zs) (g_zq) (hf12_0) (g_zm) (g_zk) (hf12_1) (by omega) (by omega)) (cwV 1 hts gX12_writeLetter_X12_put rfl rfl rfl (by decide +kernel) ⟨Nat.le_of_ble_eq_true rfl, Nat.le_of_ble_eq_true rfl⟩) ⟨fun a U g mk q => by obtain ⟨q0, q1, qP, qK, qD⟩ := q; exact ⟨q0, q1, qP, va_K.moved (u := U) (U := U.calling g mk a) (Vm.Alike.refl U.vm) qK, qD⟩, va_recv hK hPc (ci := 12) (q0 := 0) rfl rfl, fun U hU hW => ⟨rfl, by rw [hU], by rw [hU]; exact hPc, va_K.moved hW.alike hK, hDc.weaken (fun _ _ _ _ => trivial)⟩⟩ rfl rfl hl.1 rfl (lv_room (Nat.le_of_ble_eq_true rfl)) dX12_writeLetter_198 ⟨Nat.le_of_ble_eq_true rfl, Nat.le_of_ble_eq_true rfl⟩) hS (fun q _ h => hFc q h) hFc (fun u t H1 locs ht hvm hw hB hz1 hk1 hSn => ?_)
              obtain ⟨zn_66, eY_66, hP1, hD1, hf66_0, hf66_1, hf66_2⟩ := hB
              rw [ht] at hP1
              obtain ⟨hPn, hDn⟩ := va_join (wr := [(mB, .inl (cS, 131072, .inl eB))]) (w1 := [(oM, .inr (12, [.ref mT, .int zt, .ref mS, .ref mX, .int zp, .int zf, .ref mL, .ref mB, .ref mD, .ref m1, .ref m2, .int zh, .ref mR, .int zr, .ref x1, .ref x2, .ref x3, .int zc, .ref mH, .int zy, .int za, .int zb, .int zs, .int zq, .int zw, .int ze, .ref mY, .int zn_66, .ref mE, .int zm, .int zl, .ref mW, .int zk, .ref mO, .int zd, .ref y1, .ref y2, .ref y3, .ref y4, .ref mZ])), (mY, .inl (cI, 2600, .inl eY_66))]) hP hD [1, 2] [0] rfl rfl (by decide +kernel) (by decide +kernel) hk1 hFc hP1 hD1
              clear hP hD hS hPc hDc hFc hk1 hz1 hvm ht hP1 hD1
              generalize H1 = H at hPn hSn ⊢
              have hP : va_P (dC, dI) vwCl [(mB, .inl (cS, 131072, .inl eB)), (oM, .inr (12, [.ref mT, .int zt, .ref mS, .ref mX, .int zp, .int zf, .ref mL, .ref mB, .ref mD, .ref m1, .ref m2, .int zh, .ref mR, .int zr, .ref x1, .ref x2, .ref x3, .int zc, .ref mH, .int zy, .int za, .int zb, .int zs, .int zq, .int zw, .int ze, .ref mY, .int zn_66, .ref mE, .int zm, .int zl, .ref mW, .int zk, .ref mO, .int zd, .ref y1, .ref y2, .ref y3, .ref y4, .ref mZ])), (mY, .inl (cI, 2600, .inl eY_66))] H := hPn
              have hD : va_D A [(mB, .inl (cS, 131072, .inl eB)), (oM, .inr (12, [.ref mT, .int zt, .ref mS, .ref mX, .int zp, .int zf, .ref mL, .ref mB, .ref mD, .ref m1, .ref m2, .int zh, .ref mR, .int zr, .ref x1, .ref x2, .ref x3, .int zc, .ref mH, .int zy, .int za, .int zb, .int zs, .int zq, .int zw, .int ze, .ref mY, .int zn_66, .ref mE, .int zm, .int zl, .ref mW, .int zk, .ref mO, .int zd, .ref y1, .ref y2, .ref y3, .ref y4, .ref mZ])), (mY, .inl (cI, 2600, .inl eY_66))] := hDn
              have hS := hSn
              clear hPn hDn hSn
              refine lv_iload_n hx hb dX12_writeLetter_201 rfl (lv_at hl 0 rfl) ?_
              refine lv_bipush (v := 10) hx hb dX12_writeLetter_202 (by decide) ?_
              refine lv_idiv hx hb dX12_writeLetter_204 (by decide) ?_
              refine k_i (y := 1000) (by decide) ?_
              refine lv_istore_n (lv' := [(3, .int 1000), (0, .ref oM), (1, .int cd), (2, .int x)]) hx hb dX12_writeLetter_205 rfl hl (by decide) rfl (fun ls hl => ?_)
              refine lv_goto (tgt := 184) hx hb dX12_writeLetter_206 (by decide) ?_
              refine lv_iload_n hx hb dX12_writeLetter_184 rfl (lv_at hl 0 rfl) ?_
              refine lv_if_le (tgt := 209) hx hb dX12_writeLetter_185 (by decide) (fun c_67 => absurd c_67 (by decide)) (fun c_67 => ?_)
              refine lv_aload_n hx hb dX12_writeLetter_188 rfl (lv_at hl 1 rfl) ?_
              refine lv_bipush (v := 48) hx hb dX12_writeLetter_189 (by decide) ?_
              refine lv_iload_n hx hb dX12_writeLetter_191 rfl (lv_at hl 3 rfl) ?_
              refine lv_iload_n hx hb dX12_writeLetter_192 rfl (lv_at hl 0 rfl) ?_
              refine lv_idiv hx hb dX12_writeLetter_193 (by decide) ?_
              refine lv_topi (fun x_68 ex_68 => ?_)
              have tx_68 : x_68.toInt = x.toInt / 1000 := v_div ex_68 (by omega) (by decide)
              refine lv_bipush (v := 10) hx hb dX12_writeLetter_194 (by decide) ?_
              refine lv_irem hx hb dX12_writeLetter_196 (by decide) ?_
              refine lv_topi (fun x_69 ex_69 => ?_)
              have tx_69 : x_69.toInt = x_68.toInt % 10 := v_rem ex_69 (by omega) (by decide)
              refine lv_iadd hx hb dX12_writeLetter_197 ?_
              refine lv_topi (fun x_70 ex_70 => ?_)
              have tx_70 : x_70.toInt = 48 + x_69.toInt := v_add ex_70 (by show -2147483648 ≤ 48 + x_69.toInt; omega) (by show 48 + x_69.toInt < 2147483648; omega)
              have hPc := hP.sub (ws' := [(oM, .inr (12, [.ref mT, .int zt, .ref mS, .ref mX, .int zp, .int zf, .ref mL, .ref mB, .ref mD, .ref m1, .ref m2, .int zh, .ref mR, .int zr, .ref x1, .ref x2, .ref x3, .int zc, .ref mH, .int zy, .int za, .int zb, .int zs, .int zq, .int zw, .int ze, .ref mY, .int zn_66, .ref mE, .int zm, .int zl, .ref mW, .int zk, .ref mO, .int zd, .ref y1, .ref y2, .ref y3, .ref y4, .ref mZ])), (mY, .inl (cI, 2600, .inl eY_66))]) [1, 2] rfl
              have hDc := hD.sub (ws' := [(oM, .inr (12, [.ref mT, .int zt, .ref mS, .ref mX, .int zp, .int zf, .ref mL, .ref mB, .ref mD, .ref m1, .ref m2, .int zh, .ref mR, .int zr, .ref x1, .ref x2, .ref x3, .int zc, .ref mH, .int zy, .int za, .int zb, .int zs, .int zq, .int zw, .int ze, .ref mY, .int zn_66, .ref mE, .int zm, .int zl, .ref mW, .int zk, .ref mO, .int zd, .ref y1, .ref y2, .ref y3, .ref y4, .ref mZ])), (mY, .inl (cI, 2600, .inl eY_66))]) [1, 2] (by decide +kernel) rfl
              have hFc := va_free (wc := [(oM, .inr (12, [.ref mT, .int zt, .ref mS, .ref mX, .int zp, .int zf, .ref mL, .ref mB, .ref mD, .ref m1, .ref m2, .int zh, .ref mR, .int zr, .ref x1, .ref x2, .ref x3, .int zc, .ref mH, .int zy, .int za, .int zb, .int zs, .int zq, .int zw, .int ze, .ref mY, .int zn_66, .ref mE, .int zm, .int zl, .ref mW, .int zk, .ref mO, .int zd, .ref y1, .ref y2, .ref y3, .ref y4, .ref mZ])), (mY, .inl (cI, 2600, .inl eY_66))]) hD hS hA [1, 2] rfl
              refine va_callv (va_runV (As := [.int x_70]) (rest := []) ⟨hx, hb, hml, hown, hts⟩ (m_X12_put l dC dI cI cS H.size oM mT mS mX mL mB mD m1 m2 mR x1 x2 x3 mH mY mE mW mO y1 y2 y3 y4 mZ zt zp zf zh zr zc zy za zb zs zq zw ze zn_66 zm zl zk zd eY_66 x_70 (g_zt) (g_zp) (g_zf) (g_zh) (g_zr) (g_zc) (g_zy) (g_za) (g_zb) (g_zs) (g_zq) (hf66_0) (g_zm) (g_zk) (hf66_1) (by omega) (by omega)) (cwV 1 hts gX12_writeLetter_X12_put rfl rfl rfl (by decide +kernel) ⟨Nat.le_of_ble_eq_true rfl, Nat.le_of_ble_eq_true rfl⟩) ⟨fun a U g mk q => by obtain ⟨q0, q1, qP, qK, qD⟩ := q; exact ⟨q0, q1, qP, va_K.moved (u := U) (U := U.calling g mk a) (Vm.Alike.refl U.vm) qK, qD⟩, va_recv hK hPc (ci := 12) (q0 := 0) rfl rfl, fun U hU hW => ⟨rfl, by rw [hU], by rw [hU]; exact hPc, va_K.moved hW.alike hK, hDc.weaken (fun _ _ _ _ => trivial)⟩⟩ rfl rfl hl.1 rfl (lv_room (Nat.le_of_ble_eq_true rfl)) dX12_writeLetter_198 ⟨Nat.le_of_ble_eq_true rfl, Nat.le_of_ble_eq_true rfl⟩) hS (fun q _ h => hFc q h) hFc (fun u t H1 locs ht hvm hw hB hz1 hk1 hSn => ?_)
              obtain ⟨zn_71, eY_71, hP1, hD1, hf71_0, hf71_1, hf71_2⟩ := hB
              rw [ht] at hP1
              obtain ⟨hPn, hDn⟩ := va_join (wr := [(mB, .inl (cS, 131072, .inl eB))]) (w1 := [(oM, .inr (12, [.ref mT, .int zt, .ref mS, .ref mX, .int zp, .int zf, .ref mL, .ref mB, .ref mD, .ref m1, .ref m2, .int zh, .ref mR, .int zr, .ref x1, .ref x2, .ref x3, .int zc, .ref mH, .int zy, .int za, .int zb, .int zs, .int zq, .int zw, .int ze, .ref mY, .int zn_71, .ref mE, .int zm, .int zl, .ref mW, .int zk, .ref mO, .int zd, .ref y1, .ref y2, .ref y3, .ref y4, .ref mZ])), (mY, .inl (cI, 2600, .inl eY_71))]) hP hD [1, 2] [0] rfl rfl (by decide +kernel) (by decide +kernel) hk1 hFc hP1 hD1
              clear hP hD hS hPc hDc hFc hk1 hz1 hvm ht hP1 hD1
              generalize H1 = H at hPn hSn ⊢
              have hP : va_P (dC, dI) vwCl [(mB, .inl (cS, 131072, .inl eB)), (oM, .inr (12, [.ref mT, .int zt, .ref mS, .ref mX, .int zp, .int zf, .ref mL, .ref mB, .ref mD, .ref m1, .ref m2, .int zh, .ref mR, .int zr, .ref x1, .ref x2, .ref x3, .int zc, .ref mH, .int zy, .int za, .int zb, .int zs, .int zq, .int zw, .int ze, .ref mY, .int zn_71, .ref mE, .int zm, .int zl, .ref mW, .int zk, .ref mO, .int zd, .ref y1, .ref y2, .ref y3, .ref y4, .ref mZ])), (mY, .inl (cI, 2600, .inl eY_71))] H := hPn
              have hD : va_D A [(mB, .inl (cS, 131072, .inl eB)), (oM, .inr (12, [.ref mT, .int zt, .ref mS, .ref mX, .int zp, .int zf, .ref mL, .ref mB, .ref mD, .ref m1, .ref m2, .int zh, .ref mR, .int zr, .ref x1, .ref x2, .ref x3, .int zc, .ref mH, .int zy, .int za, .int zb, .int zs, .int zq, .int zw, .int ze, .ref mY, .int zn_71, .ref mE, .int zm, .int zl, .ref mW, .int zk, .ref mO, .int zd, .ref y1, .ref y2, .ref y3, .ref y4, .ref mZ])), (mY, .inl (cI, 2600, .inl eY_71))] := hDn
              have hS := hSn
              clear hPn hDn hSn
              refine lv_iload_n hx hb dX12_writeLetter_201 rfl (lv_at hl 0 rfl) ?_
              refine lv_bipush (v := 10) hx hb dX12_writeLetter_202 (by decide) ?_
              refine lv_idiv hx hb dX12_writeLetter_204 (by decide) ?_
              refine k_i (y := 100) (by decide) ?_
              refine lv_istore_n (lv' := [(3, .int 100), (0, .ref oM), (1, .int cd), (2, .int x)]) hx hb dX12_writeLetter_205 rfl hl (by decide) rfl (fun ls hl => ?_)
              refine lv_goto (tgt := 184) hx hb dX12_writeLetter_206 (by decide) ?_
              refine lv_iload_n hx hb dX12_writeLetter_184 rfl (lv_at hl 0 rfl) ?_
              refine lv_if_le (tgt := 209) hx hb dX12_writeLetter_185 (by decide) (fun c_72 => absurd c_72 (by decide)) (fun c_72 => ?_)
              refine lv_aload_n hx hb dX12_writeLetter_188 rfl (lv_at hl 1 rfl) ?_
              refine lv_bipush (v := 48) hx hb dX12_writeLetter_189 (by decide) ?_
              refine lv_iload_n hx hb dX12_writeLetter_191 rfl (lv_at hl 3 rfl) ?_
              refine lv_iload_n hx hb dX12_writeLetter_192 rfl (lv_at hl 0 rfl) ?_
              refine lv_idiv hx hb dX12_writeLetter_193 (by decide) ?_
              refine lv_topi (fun x_73 ex_73 => ?_)
              have tx_73 : x_73.toInt = x.toInt / 100 := v_div ex_73 (by omega) (by decide)
              refine lv_bipush (v := 10) hx hb dX12_writeLetter_194 (by decide) ?_
              refine lv_irem hx hb dX12_writeLetter_196 (by decide) ?_
              refine lv_topi (fun x_74 ex_74 => ?_)
              have tx_74 : x_74.toInt = x_73.toInt % 10 := v_rem ex_74 (by omega) (by decide)
              refine lv_iadd hx hb dX12_writeLetter_197 ?_
              refine lv_topi (fun x_75 ex_75 => ?_)
              have tx_75 : x_75.toInt = 48 + x_74.toInt := v_add ex_75 (by show -2147483648 ≤ 48 + x_74.toInt; omega) (by show 48 + x_74.toInt < 2147483648; omega)
              have hPc := hP.sub (ws' := [(oM, .inr (12, [.ref mT, .int zt, .ref mS, .ref mX, .int zp, .int zf, .ref mL, .ref mB, .ref mD, .ref m1, .ref m2, .int zh, .ref mR, .int zr, .ref x1, .ref x2, .ref x3, .int zc, .ref mH, .int zy, .int za, .int zb, .int zs, .int zq, .int zw, .int ze, .ref mY, .int zn_71, .ref mE, .int zm, .int zl, .ref mW, .int zk, .ref mO, .int zd, .ref y1, .ref y2, .ref y3, .ref y4, .ref mZ])), (mY, .inl (cI, 2600, .inl eY_71))]) [1, 2] rfl
              have hDc := hD.sub (ws' := [(oM, .inr (12, [.ref mT, .int zt, .ref mS, .ref mX, .int zp, .int zf, .ref mL, .ref mB, .ref mD, .ref m1, .ref m2, .int zh, .ref mR, .int zr, .ref x1, .ref x2, .ref x3, .int zc, .ref mH, .int zy, .int za, .int zb, .int zs, .int zq, .int zw, .int ze, .ref mY, .int zn_71, .ref mE, .int zm, .int zl, .ref mW, .int zk, .ref mO, .int zd, .ref y1, .ref y2, .ref y3, .ref y4, .ref mZ])), (mY, .inl (cI, 2600, .inl eY_71))]) [1, 2] (by decide +kernel) rfl
              have hFc := va_free (wc := [(oM, .inr (12, [.ref mT, .int zt, .ref mS, .ref mX, .int zp, .int zf, .ref mL, .ref mB, .ref mD, .ref m1, .ref m2, .int zh, .ref mR, .int zr, .ref x1, .ref x2, .ref x3, .int zc, .ref mH, .int zy, .int za, .int zb, .int zs, .int zq, .int zw, .int ze, .ref mY, .int zn_71, .ref mE, .int zm, .int zl, .ref mW, .int zk, .ref mO, .int zd, .ref y1, .ref y2, .ref y3, .ref y4, .ref mZ])), (mY, .inl (cI, 2600, .inl eY_71))]) hD hS hA [1, 2] rfl
              refine va_callv (va_runV (As := [.int x_75]) (rest := []) ⟨hx, hb, hml, hown, hts⟩ (m_X12_put l dC dI cI cS H.size oM mT mS mX mL mB mD m1 m2 mR x1 x2 x3 mH mY mE mW mO y1 y2 y3 y4 mZ zt zp zf zh zr zc zy za zb zs zq zw ze zn_71 zm zl zk zd eY_71 x_75 (g_zt) (g_zp) (g_zf) (g_zh) (g_zr) (g_zc) (g_zy) (g_za) (g_zb) (g_zs) (g_zq) (hf71_0) (g_zm) (g_zk) (hf71_1) (by omega) (by omega)) (cwV 1 hts gX12_writeLetter_X12_put rfl rfl rfl (by decide +kernel) ⟨Nat.le_of_ble_eq_true rfl, Nat.le_of_ble_eq_true rfl⟩) ⟨fun a U g mk q => by obtain ⟨q0, q1, qP, qK, qD⟩ := q; exact ⟨q0, q1, qP, va_K.moved (u := U) (U := U.calling g mk a) (Vm.Alike.refl U.vm) qK, qD⟩, va_recv hK hPc (ci := 12) (q0 := 0) rfl rfl, fun U hU hW => ⟨rfl, by rw [hU], by rw [hU]; exact hPc, va_K.moved hW.alike hK, hDc.weaken (fun _ _ _ _ => trivial)⟩⟩ rfl rfl hl.1 rfl (lv_room (Nat.le_of_ble_eq_true rfl)) dX12_writeLetter_198 ⟨Nat.le_of_ble_eq_true rfl, Nat.le_of_ble_eq_true rfl⟩) hS (fun q _ h => hFc q h) hFc (fun u t H1 locs ht hvm hw hB hz1 hk1 hSn => ?_)
              obtain ⟨zn_76, eY_76, hP1, hD1, hf76_0, hf76_1, hf76_2⟩ := hB
              rw [ht] at hP1
              obtain ⟨hPn, hDn⟩ := va_join (wr := [(mB, .inl (cS, 131072, .inl eB))]) (w1 := [(oM, .inr (12, [.ref mT, .int zt, .ref mS, .ref mX, .int zp, .int zf, .ref mL, .ref mB, .ref mD, .ref m1, .ref m2, .int zh, .ref mR, .int zr, .ref x1, .ref x2, .ref x3, .int zc, .ref mH, .int zy, .int za, .int zb, .int zs, .int zq, .int zw, .int ze, .ref mY, .int zn_76, .ref mE, .int zm, .int zl, .ref mW, .int zk, .ref mO, .int zd, .ref y1, .ref y2, .ref y3, .ref y4, .ref mZ])), (mY, .inl (cI, 2600, .inl eY_76))]) hP hD [1, 2] [0] rfl rfl (by decide +kernel) (by decide +kernel) hk1 hFc hP1 hD1
              clear hP hD hS hPc hDc hFc hk1 hz1 hvm ht hP1 hD1
              generalize H1 = H at hPn hSn ⊢
              have hP : va_P (dC, dI) vwCl [(mB, .inl (cS, 131072, .inl eB)), (oM, .inr (12, [.ref mT, .int zt, .ref mS, .ref mX, .int zp, .int zf, .ref mL, .ref mB, .ref mD, .ref m1, .ref m2, .int zh, .ref mR, .int zr, .ref x1, .ref x2, .ref x3, .int zc, .ref mH, .int zy, .int za, .int zb, .int zs, .int zq, .int zw, .int ze, .ref mY, .int zn_76, .ref mE, .int zm, .int zl, .ref mW, .int zk, .ref mO, .int zd, .ref y1, .ref y2, .ref y3, .ref y4, .ref mZ])), (mY, .inl (cI, 2600, .inl eY_76))] H := hPn
              have hD : va_D A [(mB, .inl (cS, 131072, .inl eB)), (oM, .inr (12, [.ref mT, .int zt, .ref mS, .ref mX, .int zp, .int zf, .ref mL, .ref mB, .ref mD, .ref m1, .ref m2, .int zh, .ref mR, .int zr, .ref x1, .ref x2, .ref x3, .int zc, .ref mH, .int zy, .int za, .int zb, .int zs, .int zq, .int zw, .int ze, .ref mY, .int zn_76, .ref mE, .int zm, .int zl, .ref mW, .int zk, .ref mO, .int zd, .ref y1, .ref y2, .ref y3, .ref y4, .ref mZ])), (mY, .inl (cI, 2600, .inl eY_76))] := hDn
              have hS := hSn
              clear hPn hDn hSn
              refine lv_iload_n hx hb dX12_writeLetter_201 rfl (lv_at hl 0 rfl) ?_
              refine lv_bipush (v := 10) hx hb dX12_writeLetter_202 (by decide) ?_
              refine lv_idiv hx hb dX12_writeLetter_204 (by decide) ?_
              refine k_i (y := 10) (by decide) ?_
              refine lv_istore_n (lv' := [(3, .int 10), (0, .ref oM), (1, .int cd), (2, .int x)]) hx hb dX12_writeLetter_205 rfl hl (by decide) rfl (fun ls hl => ?_)
              refine lv_goto (tgt := 184) hx hb dX12_writeLetter_206 (by decide) ?_
              refine lv_iload_n hx hb dX12_writeLetter_184 rfl (lv_at hl 0 rfl) ?_
              refine lv_if_le (tgt := 209) hx hb dX12_writeLetter_185 (by decide) (fun c_77 => absurd c_77 (by decide)) (fun c_77 => ?_)
              refine lv_aload_n hx hb dX12_writeLetter_188 rfl (lv_at hl 1 rfl) ?_
              refine lv_bipush (v := 48) hx hb dX12_writeLetter_189 (by decide) ?_
              refine lv_iload_n hx hb dX12_writeLetter_191 rfl (lv_at hl 3 rfl) ?_
              refine lv_iload_n hx hb dX12_writeLetter_192 rfl (lv_at hl 0 rfl) ?_
              refine lv_idiv hx hb dX12_writeLetter_193 (by decide) ?_
              refine lv_topi (fun x_78 ex_78 => ?_)
              have tx_78 : x_78.toInt = x.toInt / 10 := v_div ex_78 (by omega) (by decide)
              refine lv_bipush (v := 10) hx hb dX12_writeLetter_194 (by decide) ?_
              refine lv_irem hx hb dX12_writeLetter_196 (by decide) ?_
              refine lv_topi (fun x_79 ex_79 => ?_)
              have tx_79 : x_79.toInt = x_78.toInt % 10 := v_rem ex_79 (by omega) (by decide)
              refine lv_iadd hx hb dX12_writeLetter_197 ?_
              refine lv_topi (fun x_80 ex_80 => ?_)
              have tx_80 : x_80.toInt = 48 + x_79.toInt := v_add ex_80 (by show -2147483648 ≤ 48 + x_79.toInt; omega) (by show 48 + x_79.toInt < 2147483648; omega)
              have hPc := hP.sub (ws' := [(oM, .inr (12, [.ref mT, .int zt, .ref mS, .ref mX, .int zp, .int zf, .ref mL, .ref mB, .ref mD, .ref m1, .ref m2, .int zh, .ref mR, .int zr, .ref x1, .ref x2, .ref x3, .int zc, .ref mH, .int zy, .int za, .int zb, .int zs, .int zq, .int zw, .int ze, .ref mY, .int zn_76, .ref mE, .int zm, .int zl, .ref mW, .int zk, .ref mO, .int zd, .ref y1, .ref y2, .ref y3, .ref y4, .ref mZ])), (mY, .inl (cI, 2600, .inl eY_76))]) [1, 2] rfl
              have hDc := hD.sub (ws' := [(oM, .inr (12, [.ref mT, .int zt, .ref mS, .ref mX, .int zp, .int zf, .ref mL, .ref mB, .ref mD, .ref m1, .ref m2, .int zh, .ref mR, .int zr, .ref x1, .ref x2, .ref x3, .int zc, .ref mH, .int zy, .int za, .int zb, .int zs, .int zq, .int zw, .int ze, .ref mY, .int zn_76, .ref mE, .int zm, .int zl, .ref mW, .int zk, .ref mO, .int zd, .ref y1, .ref y2, .ref y3, .ref y4, .ref mZ])), (mY, .inl (cI, 2600, .inl eY_76))]) [1, 2] (by decide +kernel) rfl
              have hFc := va_free (wc := [(oM, .inr (12, [.ref mT, .int zt, .ref mS, .ref mX, .int zp, .int zf, .ref mL, .ref mB, .ref mD, .ref m1, .ref m2, .int zh, .ref mR, .int zr, .ref x1, .ref x2, .ref x3, .int zc, .ref mH, .int zy, .int za, .int zb, .int zs, .int zq, .int zw, .int ze, .ref mY, .int zn_76, .ref mE, .int zm, .int zl, .ref mW, .int zk, .ref mO, .int zd, .ref y1, .ref y2, .ref y3, .ref y4, .ref mZ])), (mY, .inl (cI, 2600, .inl eY_76))]) hD hS hA [1, 2] rfl
              refine va_callv (va_runV (As := [.int x_80]) (rest := []) ⟨hx, hb, hml, hown, hts⟩ (m_X12_put l dC dI cI cS H.size oM mT mS mX mL mB mD m1 m2 mR x1 x2 x3 mH mY mE mW mO y1 y2 y3 y4 mZ zt zp zf zh zr zc zy za zb zs zq zw ze zn_76 zm zl zk zd eY_76 x_80 (g_zt) (g_zp) (g_zf) (g_zh) (g_zr) (g_zc) (g_zy) (g_za) (g_zb) (g_zs) (g_zq) (hf76_0) (g_zm) (g_zk) (hf76_1) (by omega) (by omega)) (cwV 1 hts gX12_writeLetter_X12_put rfl rfl rfl (by decide +kernel) ⟨Nat.le_of_ble_eq_true rfl, Nat.le_of_ble_eq_true rfl⟩) ⟨fun a U g mk q => by obtain ⟨q0, q1, qP, qK, qD⟩ := q; exact ⟨q0, q1, qP, va_K.moved (u := U) (U := U.calling g mk a) (Vm.Alike.refl U.vm) qK, qD⟩, va_recv hK hPc (ci := 12) (q0 := 0) rfl rfl, fun U hU hW => ⟨rfl, by rw [hU], by rw [hU]; exact hPc, va_K.moved hW.alike hK, hDc.weaken (fun _ _ _ _ => trivial)⟩⟩ rfl rfl hl.1 rfl (lv_room (Nat.le_of_ble_eq_true rfl)) dX12_writeLetter_198 ⟨Nat.le_of_ble_eq_true rfl, Nat.le_of_ble_eq_true rfl⟩) hS (fun q _ h => hFc q h) hFc (fun u t H1 locs ht hvm hw hB hz1 hk1 hSn => ?_)
              obtain ⟨zn_81, eY_81, hP1, hD1, hf81_0, hf81_1, hf81_2⟩ := hB
              rw [ht] at hP1
              obtain ⟨hPn, hDn⟩ := va_join (wr := [(mB, .inl (cS, 131072, .inl eB))]) (w1 := [(oM, .inr (12, [.ref mT, .int zt, .ref mS, .ref mX, .int zp, .int zf, .ref mL, .ref mB, .ref mD, .ref m1, .ref m2, .int zh, .ref mR, .int zr, .ref x1, .ref x2, .ref x3, .int zc, .ref mH, .int zy, .int za, .int zb, .int zs, .int zq, .int zw, .int ze, .ref mY, .int zn_81, .ref mE, .int zm, .int zl, .ref mW, .int zk, .ref mO, .int zd, .ref y1, .ref y2, .ref y3, .ref y4, .ref mZ])), (mY, .inl (cI, 2600, .inl eY_81))]) hP hD [1, 2] [0] rfl rfl (by decide +kernel) (by decide +kernel) hk1 hFc hP1 hD1
              clear hP hD hS hPc hDc hFc hk1 hz1 hvm ht hP1 hD1
              generalize H1 = H at hPn hSn ⊢
              have hP : va_P (dC, dI) vwCl [(mB, .inl (cS, 131072, .inl eB)), (oM, .inr (12, [.ref mT, .int zt, .ref mS, .ref mX, .int zp, .int zf, .ref mL, .ref mB, .ref mD, .ref m1, .ref m2, .int zh, .ref mR, .int zr, .ref x1, .ref x2, .ref x3, .int zc, .ref mH, .int zy, .int za, .int zb, .int zs, .int zq, .int zw, .int ze, .ref mY, .int zn_81, .ref mE, .int zm, .int zl, .ref mW, .int zk, .ref mO, .int zd, .ref y1, .ref y2, .ref y3, .ref y4, .ref mZ])), (mY, .inl (cI, 2600, .inl eY_81))] H := hPn
              have hD : va_D A [(mB, .inl (cS, 131072, .inl eB)), (oM, .inr (12, [.ref mT, .int zt, .ref mS, .ref mX, .int zp, .int zf, .ref mL, .ref mB, .ref mD, .ref m1, .ref m2, .int zh, .ref mR, .int zr, .ref x1, .ref x2, .ref x3, .int zc, .ref mH, .int zy, .int za, .int zb, .int zs, .int zq, .int zw, .int ze, .ref mY, .int zn_81, .ref mE, .int zm, .int zl, .ref mW, .int zk, .ref mO, .int zd, .ref y1, .ref y2, .ref y3, .ref y4, .ref mZ])), (mY, .inl (cI, 2600, .inl eY_81))] := hDn
              have hS := hSn
              clear hPn hDn hSn
              refine lv_iload_n hx hb dX12_writeLetter_201 rfl (lv_at hl 0 rfl) ?_
              refine lv_bipush (v := 10) hx hb dX12_writeLetter_202 (by decide) ?_
              refine lv_idiv hx hb dX12_writeLetter_204 (by decide) ?_
              refine k_i (y := 1) (by decide) ?_
              refine lv_istore_n (lv' := [(3, .int 1), (0, .ref oM), (1, .int cd), (2, .int x)]) hx hb dX12_writeLetter_205 rfl hl (by decide) rfl (fun ls hl => ?_)
              refine lv_goto (tgt := 184) hx hb dX12_writeLetter_206 (by decide) ?_
              refine lv_iload_n hx hb dX12_writeLetter_184 rfl (lv_at hl 0 rfl) ?_
              refine lv_if_le (tgt := 209) hx hb dX12_writeLetter_185 (by decide) (fun c_82 => absurd c_82 (by decide)) (fun c_82 => ?_)
              refine lv_aload_n hx hb dX12_writeLetter_188 rfl (lv_at hl 1 rfl) ?_
              refine lv_bipush (v := 48) hx hb dX12_writeLetter_189 (by decide) ?_
              refine lv_iload_n hx hb dX12_writeLetter_191 rfl (lv_at hl 3 rfl) ?_
              refine lv_iload_n hx hb dX12_writeLetter_192 rfl (lv_at hl 0 rfl) ?_
              refine lv_idiv hx hb dX12_writeLetter_193 (by decide) ?_
              refine lv_topi (fun x_83 ex_83 => ?_)
              have tx_83 : x_83.toInt = x.toInt / 1 := v_div ex_83 (by omega) (by decide)
              refine lv_bipush (v := 10) hx hb dX12_writeLetter_194 (by decide) ?_
              refine lv_irem hx hb dX12_writeLetter_196 (by decide) ?_
              refine lv_topi (fun x_84 ex_84 => ?_)
              have tx_84 : x_84.toInt = x_83.toInt % 10 := v_rem ex_84 (by omega) (by decide)
              refine lv_iadd hx hb dX12_writeLetter_197 ?_
              refine lv_topi (fun x_85 ex_85 => ?_)
              have tx_85 : x_85.toInt = 48 + x_84.toInt := v_add ex_85 (by show -2147483648 ≤ 48 + x_84.toInt; omega) (by show 48 + x_84.toInt < 2147483648; omega)
              have hPc := hP.sub (ws' := [(oM, .inr (12, [.ref mT, .int zt, .ref mS, .ref mX, .int zp, .int zf, .ref mL, .ref mB, .ref mD, .ref m1, .ref m2, .int zh, .ref mR, .int zr, .ref x1, .ref x2, .ref x3, .int zc, .ref mH, .int zy, .int za, .int zb, .int zs, .int zq, .int zw, .int ze, .ref mY, .int zn_81, .ref mE, .int zm, .int zl, .ref mW, .int zk, .ref mO, .int zd, .ref y1, .ref y2, .ref y3, .ref y4, .ref mZ])), (mY, .inl (cI, 2600, .inl eY_81))]) [1, 2] rfl
              have hDc := hD.sub (ws' := [(oM, .inr (12, [.ref mT, .int zt, .ref mS, .ref mX, .int zp, .int zf, .ref mL, .ref mB, .ref mD, .ref m1, .ref m2, .int zh, .ref mR, .int zr, .ref x1, .ref x2, .ref x3, .int zc, .ref mH, .int zy, .int za, .int zb, .int zs, .int zq, .int zw, .int ze, .ref mY, .int zn_81, .ref mE, .int zm, .int zl, .ref mW, .int zk, .ref mO, .int zd, .ref y1, .ref y2, .ref y3, .ref y4, .ref mZ])), (mY, .inl (cI, 2600, .inl eY_81))]) [1, 2] (by decide +kernel) rfl
              have hFc := va_free (wc := [(oM, .inr (12, [.ref mT, .int zt, .ref mS, .ref mX, .int zp, .int zf, .ref mL, .ref mB, .ref mD, .ref m1, .ref m2, .int zh, .ref mR, .int zr, .ref x1, .ref x2, .ref x3, .int zc, .ref mH, .int zy, .int za, .int zb, .int zs, .int zq, .int zw, .int ze, .ref mY, .int zn_81, .ref mE, .int zm, .int zl, .ref mW, .int zk, .ref mO, .int zd, .ref y1, .ref y2, .ref y3, .ref y4, .ref mZ])), (mY, .inl (cI, 2600, .inl eY_81))]) hD hS hA [1, 2] rfl
              refine va_callv (va_runV (As := [.int x_85]) (rest := []) ⟨hx, hb, hml, hown, hts⟩ (m_X12_put l dC dI cI cS H.size oM mT mS mX mL mB mD m1 m2 mR x1 x2 x3 mH mY mE mW mO y1 y2 y3 y4 mZ zt zp zf zh zr zc zy za zb zs zq zw ze zn_81 zm zl zk zd eY_81 x_85 (g_zt) (g_zp) (g_zf) (g_zh) (g_zr) (g_zc) (g_zy) (g_za) (g_zb) (g_zs) (g_zq) (hf81_0) (g_zm) (g_zk) (hf81_1) (by omega) (by omega)) (cwV 1 hts gX12_writeLetter_X12_put rfl rfl rfl (by decide +kernel) ⟨Nat.le_of_ble_eq_true rfl, Nat.le_of_ble_eq_true rfl⟩) ⟨fun a U g mk q => by obtain ⟨q0, q1, qP, qK, qD⟩ := q; exact ⟨q0, q1, qP, va_K.moved (u := U) (U := U.calling g mk a) (Vm.Alike.refl U.vm) qK, qD⟩, va_recv hK hPc (ci := 12) (q0 := 0) rfl rfl, fun U hU hW => ⟨rfl, by rw [hU], by rw [hU]; exact hPc, va_K.moved hW.alike hK, hDc.weaken (fun _ _ _ _ => trivial)⟩⟩ rfl rfl hl.1 rfl (lv_room (Nat.le_of_ble_eq_true rfl)) dX12_writeLetter_198 ⟨Nat.le_of_ble_eq_true rfl, Nat.le_of_ble_eq_true rfl⟩) hS (fun q _ h => hFc q h) hFc (fun u t H1 locs ht hvm hw hB hz1 hk1 hSn => ?_)
              obtain ⟨zn_86, eY_86, hP1, hD1, hf86_0, hf86_1, hf86_2⟩ := hB
              rw [ht] at hP1
              obtain ⟨hPn, hDn⟩ := va_join (wr := [(mB, .inl (cS, 131072, .inl eB))]) (w1 := [(oM, .inr (12, [.ref mT, .int zt, .ref mS, .ref mX, .int zp, .int zf, .ref mL, .ref mB, .ref mD, .ref m1, .ref m2, .int zh, .ref mR, .int zr, .ref x1, .ref x2, .ref x3, .int zc, .ref mH, .int zy, .int za, .int zb, .int zs, .int zq, .int zw, .int ze, .ref mY, .int zn_86, .ref mE, .int zm, .int zl, .ref mW, .int zk, .ref mO, .int zd, .ref y1, .ref y2, .ref y3, .ref y4, .ref mZ])), (mY, .inl (cI, 2600, .inl eY_86))]) hP hD [1, 2] [0] rfl rfl (by decide +kernel) (by decide +kernel) hk1 hFc hP1 hD1
              clear hP hD hS hPc hDc hFc hk1 hz1 hvm ht hP1 hD1
              generalize H1 = H at hPn hSn ⊢
              have hP : va_P (dC, dI) vwCl [(mB, .inl (cS, 131072, .inl eB)), (oM, .inr (12, [.ref mT, .int zt, .ref mS, .ref mX, .int zp, .int zf, .ref mL, .ref mB, .ref mD, .ref m1, .ref m2, .int zh, .ref mR, .int zr, .ref x1, .ref x2, .ref x3, .int zc, .ref mH, .int zy, .int za, .int zb, .int zs, .int zq, .int zw, .int ze, .ref mY, .int zn_86, .ref mE, .int zm, .int zl, .ref mW, .int zk, .ref mO, .int zd, .ref y1, .ref y2, .ref y3, .ref y4, .ref mZ])), (mY, .inl (cI, 2600, .inl eY_86))] H := hPn
              have hD : va_D A [(mB, .inl (cS, 131072, .inl eB)), (oM, .inr (12, [.ref mT, .int zt, .ref mS, .ref mX, .int zp, .int zf, .ref mL, .ref mB, .ref mD, .ref m1, .ref m2, .int zh, .ref mR, .int zr, .ref x1, .ref x2, .ref x3, .int zc, .ref mH, .int zy, .int za, .int zb, .int zs, .int zq, .int zw, .int ze, .ref mY, .int zn_86, .ref mE, .int zm, .int zl, .ref mW, .int zk, .ref mO, .int zd, .ref y1, .ref y2, .ref y3, .ref y4, .ref mZ])), (mY, .inl (cI, 2600, .inl eY_86))] := hDn
              have hS := hSn
              clear hPn hDn hSn
              refine lv_iload_n hx hb dX12_writeLetter_201 rfl (lv_at hl 0 rfl) ?_
              refine lv_bipush (v := 10) hx hb dX12_writeLetter_202 (by decide) ?_
              refine lv_idiv hx hb dX12_writeLetter_204 (by decide) ?_
              refine k_i (y := 0) (by decide) ?_
              refine lv_istore_n (lv' := [(3, .int 0), (0, .ref oM), (1, .int cd), (2, .int x)]) hx hb dX12_writeLetter_205 rfl hl (by decide) rfl (fun ls hl => ?_)
              refine lv_goto (tgt := 184) hx hb dX12_writeLetter_206 (by decide) ?_
              refine lv_iload_n hx hb dX12_writeLetter_184 rfl (lv_at hl 0 rfl) ?_
              refine lv_if_le (tgt := 209) hx hb dX12_writeLetter_185 (by decide) (fun c_87 => ?_) (fun c_87 => absurd c_87 (by decide))
              refine lv_aload_n hx hb dX12_writeLetter_209 rfl (lv_at hl 1 rfl) ?_
              refine lv_bipush (v := 59) hx hb dX12_writeLetter_210 (by decide) ?_
              have hPc := hP.sub (ws' := [(oM, .inr (12, [.ref mT, .int zt, .ref mS, .ref mX, .int zp, .int zf, .ref mL, .ref mB, .ref mD, .ref m1, .ref m2, .int zh, .ref mR, .int zr, .ref x1, .ref x2, .ref x3, .int zc, .ref mH, .int zy, .int za, .int zb, .int zs, .int zq, .int zw, .int ze, .ref mY, .int zn_86, .ref mE, .int zm, .int zl, .ref mW, .int zk, .ref mO, .int zd, .ref y1, .ref y2, .ref y3, .ref y4, .ref mZ])), (mY, .inl (cI, 2600, .inl eY_86))]) [1, 2] rfl
              have hDc := hD.sub (ws' := [(oM, .inr (12, [.ref mT, .int zt, .ref mS, .ref mX, .int zp, .int zf, .ref mL, .ref mB, .ref mD, .ref m1, .ref m2, .int zh, .ref mR, .int zr, .ref x1, .ref x2, .ref x3, .int zc, .ref mH, .int zy, .int za, .int zb, .int zs, .int zq, .int zw, .int ze, .ref mY, .int zn_86, .ref mE, .int zm, .int zl, .ref mW, .int zk, .ref mO, .int zd, .ref y1, .ref y2, .ref y3, .ref y4, .ref mZ])), (mY, .inl (cI, 2600, .inl eY_86))]) [1, 2] (by decide +kernel) rfl
              have hFc := va_free (wc := [(oM, .inr (12, [.ref mT, .int zt, .ref mS, .ref mX, .int zp, .int zf, .ref mL, .ref mB, .ref mD, .ref m1, .ref m2, .int zh, .ref mR, .int zr, .ref x1, .ref x2, .ref x3, .int zc, .ref mH, .int zy, .int za, .int zb, .int zs, .int zq, .int zw, .int ze, .ref mY, .int zn_86, .ref mE, .int zm, .int zl, .ref mW, .int zk, .ref mO, .int zd, .ref y1, .ref y2, .ref y3, .ref y4, .ref mZ])), (mY, .inl (cI, 2600, .inl eY_86))]) hD hS hA [1, 2] rfl
              refine va_callv (va_runV (As := [.int 59]) (rest := []) ⟨hx, hb, hml, hown, hts⟩ (m_X12_put l dC dI cI cS H.size oM mT mS mX mL mB mD m1 m2 mR x1 x2 x3 mH mY mE mW mO y1 y2 y3 y4 mZ zt zp zf zh zr zc zy za zb zs zq zw ze zn_86 zm zl zk zd eY_86 59 (g_zt) (g_zp) (g_zf) (g_zh) (g_zr) (g_zc) (g_zy) (g_za) (g_zb) (g_zs) (g_zq) (hf86_0) (g_zm) (g_zk) (hf86_1) (by decide) (by omega)) (cwV 1 hts gX12_writeLetter_X12_put rfl rfl rfl (by decide +kernel) ⟨Nat.le_of_ble_eq_true rfl, Nat.le_of_ble_eq_true rfl⟩) ⟨fun a U g mk q => by obtain ⟨q0, q1, qP, qK, qD⟩ := q; exact ⟨q0, q1, qP, va_K.moved (u := U) (U := U.calling g mk a) (Vm.Alike.refl U.vm) qK, qD⟩, va_recv hK hPc (ci := 12) (q0 := 0) rfl rfl, fun U hU hW => ⟨rfl, by rw [hU], by rw [hU]; exact hPc, va_K.moved hW.alike hK, hDc.weaken (fun _ _ _ _ => trivial)⟩⟩ rfl rfl hl.1 rfl (lv_room (Nat.le_of_ble_eq_true rfl)) dX12_writeLetter_212 ⟨Nat.le_of_ble_eq_true rfl, Nat.le_of_ble_eq_true rfl⟩) hS (fun q _ h => hFc q h) hFc (fun u t H1 locs ht hvm hw hB hz1 hk1 hSn => ?_)
              obtain ⟨zn_88, eY_88, hP1, hD1, hf88_0, hf88_1, hf88_2⟩ := hB
              rw [ht] at hP1
              obtain ⟨hPn, hDn⟩ := va_join (wr := [(mB, .inl (cS, 131072, .inl eB))]) (w1 := [(oM, .inr (12, [.ref mT, .int zt, .ref mS, .ref mX, .int zp, .int zf, .ref mL, .ref mB, .ref mD, .ref m1, .ref m2, .int zh, .ref mR, .int zr, .ref x1, .ref x2, .ref x3, .int zc, .ref mH, .int zy, .int za, .int zb, .int zs, .int zq, .int zw, .int ze, .ref mY, .int zn_88, .ref mE, .int zm, .int zl, .ref mW, .int zk, .ref mO, .int zd, .ref y1, .ref y2, .ref y3, .ref y4, .ref mZ])), (mY, .inl (cI, 2600, .inl eY_88))]) hP hD [1, 2] [0] rfl rfl (by decide +kernel) (by decide +kernel) hk1 hFc hP1 hD1
              clear hP hD hS hPc hDc hFc hk1 hz1 hvm ht hP1 hD1
              generalize H1 = H at hPn hSn ⊢
              have hP : va_P (dC, dI) vwCl [(mB, .inl (cS, 131072, .inl eB)), (oM, .inr (12, [.ref mT, .int zt, .ref mS, .ref mX, .int zp, .int zf, .ref mL, .ref mB, .ref mD, .ref m1, .ref m2, .int zh, .ref mR, .int zr, .ref x1, .ref x2, .ref x3, .int zc, .ref mH, .int zy, .int za, .int zb, .int zs, .int zq, .int zw, .int ze, .ref mY, .int zn_88, .ref mE, .int zm, .int zl, .ref mW, .int zk, .ref mO, .int zd, .ref y1, .ref y2, .ref y3, .ref y4, .ref mZ])), (mY, .inl (cI, 2600, .inl eY_88))] H := hPn
              have hD : va_D A [(mB, .inl (cS, 131072, .inl eB)), (oM, .inr (12, [.ref mT, .int zt, .ref mS, .ref mX, .int zp, .int zf, .ref mL, .ref mB, .ref mD, .ref m1, .ref m2, .int zh, .ref mR, .int zr, .ref x1, .ref x2, .ref x3, .int zc, .ref mH, .int zy, .int za, .int zb, .int zs, .int zq, .int zw, .int ze, .ref mY, .int zn_88, .ref mE, .int zm, .int zl, .ref mW, .int zk, .ref mO, .int zd, .ref y1, .ref y2, .ref y3, .ref y4, .ref mZ])), (mY, .inl (cI, 2600, .inl eY_88))] := hDn
              have hS := hSn
              clear hPn hDn hSn
              refine lv_goto (tgt := 244) hx hb dX12_writeLetter_215 (by decide) ?_
              refine lv_iconst (v := 1) hx hb dX12_writeLetter_244 (by decide) ?_
              have hP9 := hP.sub (ws' := [(oM, .inr (12, [.ref mT, .int zt, .ref mS, .ref mX, .int zp, .int zf, .ref mL, .ref mB, .ref mD, .ref m1, .ref m2, .int zh, .ref mR, .int zr, .ref x1, .ref x2, .ref x3, .int zc, .ref mH, .int zy, .int za, .int zb, .int zs, .int zq, .int zw, .int ze, .ref mY, .int zn_88, .ref mE, .int zm, .int zl, .ref mW, .int zk, .ref mO, .int zd, .ref y1, .ref y2, .ref y3, .ref y4, .ref mZ])), (mY, .inl (cI, 2600, .inl eY_88)), (mB, .inl (cS, 131072, .inl eB))]) [1, 2, 0] rfl
              have hD9 := hD.sub (ws' := [(oM, .inr (12, [.ref mT, .int zt, .ref mS, .ref mX, .int zp, .int zf, .ref mL, .ref mB, .ref mD, .ref m1, .ref m2, .int zh, .ref mR, .int zr, .ref x1, .ref x2, .ref x3, .int zc, .ref mH, .int zy, .int za, .int zb, .int zs, .int zq, .int zw, .int ze, .ref mY, .int zn_88, .ref mE, .int zm, .int zl, .ref mW, .int zk, .ref mO, .int zd, .ref y1, .ref y2, .ref y3, .ref y4, .ref mZ])), (mY, .inl (cI, 2600, .inl eY_88)), (mB, .inl (cS, 131072, .inl eB))]) [1, 2, 0] (by decide +kernel) rfl
              rw [hQQ]
              exact W.zret (v := 1) (ty := .boolean) hx hb hr (rfl) (fun t ht hW => ⟨⟨1, 1, rfl, rfl, ⟨zn_88, eY_88, by rw [ht]; exact hP9, hD9, hf88_0, hf88_1, by decide, by show zn_88.toInt ≤ zn.toInt + 8; omega⟩⟩, hS.F ht⟩) hS.2.2 dX12_writeLetter_245
        · have tc_10 : x.toInt < 128 := v_nle c_10
          refine lv_iload_n hx hb dX12_writeLetter_140 rfl (lv_at hl 2 rfl) ?_
          refine lv_bipush (v := 38) hx hb dX12_writeLetter_141 (by decide) ?_
          refine lv_icmp_eq (tgt := 154) hx hb dX12_writeLetter_143 (by decide) (fun c_89 => ?_) (fun c_89 => ?_)
          · have tc_89 : x.toInt = 38 := v_eq c_89
            refine lv_aload_n hx hb dX12_writeLetter_154 rfl (lv_at hl 0 rfl) ?_
            refine lv_bipush (v := 38) hx hb dX12_writeLetter_155 (by decide) ?_
            have hPc := hP.sub (ws' := [(oM, .inr (12, [.ref mT, .int zt, .ref mS, .ref mX, .int zp, .int zf, .ref mL, .ref mB, .ref mD, .ref m1, .ref m2, .int zh, .ref mR, .int zr, .ref x1, .ref x2, .ref x3, .int zc, .ref mH, .int zy, .int za, .int zb, .int zs, .int zq, .int zw, .int ze, .ref mY, .int zn, .ref mE, .int zm, .int zl, .ref mW, .int zk, .ref mO, .int zd, .ref y1, .ref y2, .ref y3, .ref y4, .ref mZ])), (mY, .inl (cI, 2600, .inl eY))]) [0, 1] rfl
            have hDc := hD.sub (ws' := [(oM, .inr (12, [.ref mT, .int zt, .ref mS, .ref mX, .int zp, .int zf, .ref mL, .ref mB, .ref mD, .ref m1, .ref m2, .int zh, .ref mR, .int zr, .ref x1, .ref x2, .ref x3, .int zc, .ref mH, .int zy, .int za, .int zb, .int zs, .int zq, .int zw, .int ze, .ref mY, .int zn, .ref mE, .int zm, .int zl, .ref mW, .int zk, .ref mO, .int zd, .ref y1, .ref y2, .ref y3, .ref y4, .ref mZ])), (mY, .inl (cI, 2600, .inl eY))]) [0, 1] (by decide +kernel) rfl
            have hFc := va_free (wc := [(oM, .inr (12, [.ref mT, .int zt, .ref mS, .ref mX, .int zp, .int zf, .ref mL, .ref mB, .ref mD, .ref m1, .ref m2, .int zh, .ref mR, .int zr, .ref x1, .ref x2, .ref x3, .int zc, .ref mH, .int zy, .int za, .int zb, .int zs, .int zq, .int zw, .int ze, .ref mY, .int zn, .ref mE, .int zm, .int zl, .ref mW, .int zk, .ref mO, .int zd, .ref y1, .ref y2, .ref y3, .ref y4, .ref mZ])), (mY, .inl (cI, 2600, .inl eY))]) hD hS hA [0, 1] rfl
            refine va_callv (va_runV (As := [.int 38]) (rest := []) ⟨hx, hb, hml, hown, hts⟩ (m_X12_put l dC dI cI cS s.heap.size oM mT mS mX mL mB mD m1 m2 mR x1 x2 x3 mH mY mE mW mO y1 y2 y3 y4 mZ zt zp zf zh zr zc zy za zb zs zq zw ze zn zm zl zk zd eY 38 (g_zt) (g_zp) (g_zf) (g_zh) (g_zr) (g_zc) (g_zy) (g_za) (g_zb) (g_zs) (g_zq) (g_zn) (g_zm) (g_zk) (g_eY) (by decide) (by omega)) (cwV 1 hts gX12_writeLetter_X12_put rfl rfl rfl (by decide +kernel) ⟨Nat.le_of_ble_eq_true rfl, Nat.le_of_ble_eq_true rfl⟩) ⟨fun a U g mk q => by obtain ⟨q0, q1, qP, qK, qD⟩ := q; exact ⟨q0, q1, qP, va_K.moved (u := U) (U := U.calling g mk a) (Vm.Alike.refl U.vm) qK, qD⟩, va_recv hK hPc (ci := 12) (q0 := 0) rfl rfl, fun U hU hW => ⟨rfl, by rw [hU], by rw [hU]; exact hPc, va_K.moved hW.alike hK, hDc.weaken (fun _ _ _ _ => trivial)⟩⟩ rfl rfl hl.1 rfl (lv_room (Nat.le_of_ble_eq_true rfl)) dX12_writeLetter_157 ⟨Nat.le_of_ble_eq_true rfl, Nat.le_of_ble_eq_true rfl⟩) hS (fun q _ h => hFc q h) hFc (fun u t H1 locs ht hvm hw hB hz1 hk1 hSn => ?_)
            obtain ⟨zn_90, eY_90, hP1, hD1, hf90_0, hf90_1, hf90_2⟩ := hB
            rw [ht] at hP1
            obtain ⟨hPn, hDn⟩ := va_join (wr := [(mB, .inl (cS, 131072, .inl eB))]) (w1 := [(oM, .inr (12, [.ref mT, .int zt, .ref mS, .ref mX, .int zp, .int zf, .ref mL, .ref mB, .ref mD, .ref m1, .ref m2, .int zh, .ref mR, .int zr, .ref x1, .ref x2, .ref x3, .int zc, .ref mH, .int zy, .int za, .int zb, .int zs, .int zq, .int zw, .int ze, .ref mY, .int zn_90, .ref mE, .int zm, .int zl, .ref mW, .int zk, .ref mO, .int zd, .ref y1, .ref y2, .ref y3, .ref y4, .ref mZ])), (mY, .inl (cI, 2600, .inl eY_90))]) hP hD [0, 1] [2] rfl rfl (by decide +kernel) (by decide +kernel) hk1 hFc hP1 hD1
            clear hP hD hS hPc hDc hFc hk1 hz1 hvm ht hP1 hD1
            generalize H1 = H at hPn hSn ⊢
            have hP : va_P (dC, dI) vwCl [(mB, .inl (cS, 131072, .inl eB)), (oM, .inr (12, [.ref mT, .int zt, .ref mS, .ref mX, .int zp, .int zf, .ref mL, .ref mB, .ref mD, .ref m1, .ref m2, .int zh, .ref mR, .int zr, .ref x1, .ref x2, .ref x3, .int zc, .ref mH, .int zy, .int za, .int zb, .int zs, .int zq, .int zw, .int ze, .ref mY, .int zn_90, .ref mE, .int zm, .int zl, .ref mW, .int zk, .ref mO, .int zd, .ref y1, .ref y2, .ref y3, .ref y4, .ref mZ])), (mY, .inl (cI, 2600, .inl eY_90))] H := hPn
            have hD : va_D A [(mB, .inl (cS, 131072, .inl eB)), (oM, .inr (12, [.ref mT, .int zt, .ref mS, .ref mX, .int zp, .int zf, .ref mL, .ref mB, .ref mD, .ref m1, .ref m2, .int zh, .ref mR, .int zr, .ref x1, .ref x2, .ref x3, .int zc, .ref mH, .int zy, .int za, .int zb, .int zs, .int zq, .int zw, .int ze, .ref mY, .int zn_90, .ref mE, .int zm, .int zl, .ref mW, .int zk, .ref mO, .int zd, .ref y1, .ref y2, .ref y3, .ref y4, .ref mZ])), (mY, .inl (cI, 2600, .inl eY_90))] := hDn
            have hS := hSn
            clear hPn hDn hSn
            refine lv_aload_n hx hb dX12_writeLetter_160 rfl (lv_at hl 0 rfl) ?_
            refine lv_bipush (v := 35) hx hb dX12_writeLetter_161 (by decide) ?_
            have hPc := hP.sub (ws' := [(oM, .inr (12, [.ref mT, .int zt, .ref mS, .ref mX, .int zp, .int zf, .ref mL, .ref mB, .ref mD, .ref m1, .ref m2, .int zh, .ref mR, .int zr, .ref x1, .ref x2, .ref x3, .int zc, .ref mH, .int zy, .int za, .int zb, .int zs, .int zq, .int zw, .int ze, .ref mY, .int zn_90, .ref mE, .int zm, .int zl, .ref mW, .int zk, .ref mO, .int zd, .ref y1, .ref y2, .ref y3, .ref y4, .ref mZ])), (mY, .inl (cI, 2600, .inl eY_90))]) [1, 2] rfl
            have hDc := hD.sub (ws' := [(oM, .inr (12, [.ref mT, .int zt, .ref mS, .ref mX, .int zp, .int zf, .ref mL, .ref mB, .ref mD, .ref m1, .ref m2, .int zh, .ref mR, .int zr, .ref x1, .ref x2, .ref x3, .int zc, .ref mH, .int zy, .int za, .int zb, .int zs, .int zq, .int zw, .int ze, .ref mY, .int zn_90, .ref mE, .int zm, .int zl, .ref mW, .int zk, .ref mO, .int zd, .ref y1, .ref y2, .ref y3, .ref y4, .ref mZ])), (mY, .inl (cI, 2600, .inl eY_90))]) [1, 2] (by decide +kernel) rfl
            have hFc := va_free (wc := [(oM, .inr (12, [.ref mT, .int zt, .ref mS, .ref mX, .int zp, .int zf, .ref mL, .ref mB, .ref mD, .ref m1, .ref m2, .int zh, .ref mR, .int zr, .ref x1, .ref x2, .ref x3, .int zc, .ref mH, .int zy, .int za, .int zb, .int zs, .int zq, .int zw, .int ze, .ref mY, .int zn_90, .ref mE, .int zm, .int zl, .ref mW, .int zk, .ref mO, .int zd, .ref y1, .ref y2, .ref y3, .ref y4, .ref mZ])), (mY, .inl (cI, 2600, .inl eY_90))]) hD hS hA [1, 2] rfl
            refine va_callv (va_runV (As := [.int 35]) (rest := []) ⟨hx, hb, hml, hown, hts⟩ (m_X12_put l dC dI cI cS H.size oM mT mS mX mL mB mD m1 m2 mR x1 x2 x3 mH mY mE mW mO y1 y2 y3 y4 mZ zt zp zf zh zr zc zy za zb zs zq zw ze zn_90 zm zl zk zd eY_90 35 (g_zt) (g_zp) (g_zf) (g_zh) (g_zr) (g_zc) (g_zy) (g_za) (g_zb) (g_zs) (g_zq) (hf90_0) (g_zm) (g_zk) (hf90_1) (by decide) (by omega)) (cwV 1 hts gX12_writeLetter_X12_put rfl rfl rfl (by decide +kernel) ⟨Nat.le_of_ble_eq_true rfl, Nat.le_of_ble_eq_true rfl⟩) ⟨fun a U g mk q => by obtain ⟨q0, q1, qP, qK, qD⟩ := q; exact ⟨q0, q1, qP, va_K.moved (u := U) (U := U.calling g mk a) (Vm.Alike.refl U.vm) qK, qD⟩, va_recv hK hPc (ci := 12) (q0 := 0) rfl rfl, fun U hU hW => ⟨rfl, by rw [hU], by rw [hU]; exact hPc, va_K.moved hW.alike hK, hDc.weaken (fun _ _ _ _ => trivial)⟩⟩ rfl rfl hl.1 rfl (lv_room (Nat.le_of_ble_eq_true rfl)) dX12_writeLetter_163 ⟨Nat.le_of_ble_eq_true rfl, Nat.le_of_ble_eq_true rfl⟩) hS (fun q _ h => hFc q h) hFc (fun u t H1 locs ht hvm hw hB hz1 hk1 hSn => ?_)
            obtain ⟨zn_91, eY_91, hP1, hD1, hf91_0, hf91_1, hf91_2⟩ := hB
            rw [ht] at hP1
            obtain ⟨hPn, hDn⟩ := va_join (wr := [(mB, .inl (cS, 131072, .inl eB))]) (w1 := [(oM, .inr (12, [.ref mT, .int zt, .ref mS, .ref mX, .int zp, .int zf, .ref mL, .ref mB, .ref mD, .ref m1, .ref m2, .int zh, .ref mR, .int zr, .ref x1, .ref x2, .ref x3, .int zc, .ref mH, .int zy, .int za, .int zb, .int zs, .int zq, .int zw, .int ze, .ref mY, .int zn_91, .ref mE, .int zm, .int zl, .ref mW, .int zk, .ref mO, .int zd, .ref y1, .ref y2, .ref y3, .ref y4, .ref mZ])), (mY, .inl (cI, 2600, .inl eY_91))]) hP hD [1, 2] [0] rfl rfl (by decide +kernel) (by decide +kernel) hk1 hFc hP1 hD1
            clear hP hD hS hPc hDc hFc hk1 hz1 hvm ht hP1 hD1
            generalize H1 = H at hPn hSn ⊢
            have hP : va_P (dC, dI) vwCl [(mB, .inl (cS, 131072, .inl eB)), (oM, .inr (12, [.ref mT, .int zt, .ref mS, .ref mX, .int zp, .int zf, .ref mL, .ref mB, .ref mD, .ref m1, .ref m2, .int zh, .ref mR, .int zr, .ref x1, .ref x2, .ref x3, .int zc, .ref mH, .int zy, .int za, .int zb, .int zs, .int zq, .int zw, .int ze, .ref mY, .int zn_91, .ref mE, .int zm, .int zl, .ref mW, .int zk, .ref mO, .int zd, .ref y1, .ref y2, .ref y3, .ref y4, .ref mZ])), (mY, .inl (cI, 2600, .inl eY_91))] H := hPn
            have hD : va_D A [(mB, .inl (cS, 131072, .inl eB)), (oM, .inr (12, [.ref mT, .int zt, .ref mS, .ref mX, .int zp, .int zf, .ref mL, .ref mB, .ref mD, .ref m1, .ref m2, .int zh, .ref mR, .int zr, .ref x1, .ref x2, .ref x3, .int zc, .ref mH, .int zy, .int za, .int zb, .int zs, .int zq, .int zw, .int ze, .ref mY, .int zn_91, .ref mE, .int zm, .int zl, .ref mW, .int zk, .ref mO, .int zd, .ref y1, .ref y2, .ref y3, .ref y4, .ref mZ])), (mY, .inl (cI, 2600, .inl eY_91))] := hDn
            have hS := hSn
            clear hPn hDn hSn
            refine lv_iconst (v := 1) hx hb dX12_writeLetter_166 (by decide) ?_
            refine lv_istore_n (lv' := [(3, .int 1), (0, .ref oM), (1, .int cd), (2, .int x)]) hx hb dX12_writeLetter_167 rfl hl (by decide) rfl (fun ls hl => ?_)
            refine lv_iload_n hx hb dX12_writeLetter_168 rfl (lv_at hl 3 rfl) ?_
            refine lv_iload_n hx hb dX12_writeLetter_169 rfl (lv_at hl 0 rfl) ?_
            refine lv_idiv hx hb dX12_writeLetter_170 (by decide) ?_
            refine lv_topi (fun x_92 ex_92 => ?_)
            have tx_92 : x_92.toInt = x.toInt / 1 := v_div ex_92 (by omega) (by decide)
            refine lv_bipush (v := 10) hx hb dX12_writeLetter_171 (by decide) ?_
            refine lv_icmp_lt (tgt := 184) hx hb dX12_writeLetter_173 (by decide) (fun c_93 => by exfalso; have tc_93 : x_92.toInt < 10 := v_lt c_93; omega) (fun c_93 => ?_)
            have tc_93 : 10 ≤ x_92.toInt := v_nlt c_93
            refine lv_iload_n hx hb dX12_writeLetter_176 rfl (lv_at hl 0 rfl) ?_
            refine lv_bipush (v := 10) hx hb dX12_writeLetter_177 (by decide) ?_
            refine lv_imul hx hb dX12_writeLetter_179 ?_
            refine k_i (y := 10) (by decide) ?_
            refine lv_istore_n (lv' := [(3, .int 10), (0, .ref oM), (1, .int cd), (2, .int x)]) hx hb dX12_writeLetter_180 rfl hl (by decide) rfl (fun ls hl => ?_)
            refine lv_goto (tgt := 168) hx hb dX12_writeLetter_181 (by decide) ?_
            refine lv_iload_n hx hb dX12_writeLetter_168 rfl (lv_at hl 3 rfl) ?_
            refine lv_iload_n hx hb dX12_writeLetter_169 rfl (lv_at hl 0 rfl) ?_
            refine lv_idiv hx hb dX12_writeLetter_170 (by decide) ?_
            refine lv_topi (fun x_94 ex_94 => ?_)
            have tx_94 : x_94.toInt = x.toInt / 10 := v_div ex_94 (by omega) (by decide)
            refine lv_bipush (v := 10) hx hb dX12_writeLetter_171 (by decide) ?_
            refine lv_icmp_lt (tgt := 184) hx hb dX12_writeLetter_173 (by decide) (fun c_95 => ?_) (fun c_95 => by exfalso; have tc_95 : 10 ≤ x_94.toInt := v_nlt c_95; omega)
            have tc_95 : x_94.toInt < 10 := v_lt c_95
            refine lv_iload_n hx hb dX12_writeLetter_184 rfl (lv_at hl 0 rfl) ?_
            refine lv_if_le (tgt := 209) hx hb dX12_writeLetter_185 (by decide) (fun c_96 => absurd c_96 (by decide)) (fun c_96 => ?_)
            refine lv_aload_n hx hb dX12_writeLetter_188 rfl (lv_at hl 1 rfl) ?_
            refine lv_bipush (v := 48) hx hb dX12_writeLetter_189 (by decide) ?_
            refine lv_iload_n hx hb dX12_writeLetter_191 rfl (lv_at hl 3 rfl) ?_
            refine lv_iload_n hx hb dX12_writeLetter_192 rfl (lv_at hl 0 rfl) ?_
            refine lv_idiv hx hb dX12_writeLetter_193 (by decide) ?_
            refine lv_topi (fun x_97 ex_97 => ?_)
            have tx_97 : x_97.toInt = x.toInt / 10 := v_div ex_97 (by omega) (by decide)
            refine lv_bipush (v := 10) hx hb dX12_writeLetter_194 (by decide) ?_
            refine lv_irem hx hb dX12_writeLetter_196 (by decide) ?_
            refine lv_topi (fun x_98 ex_98 => ?_)
            have tx_98 : x_98.toInt = x_97.toInt % 10 := v_rem ex_98 (by omega) (by decide)
            refine lv_iadd hx hb dX12_writeLetter_197 ?_
            refine lv_topi (fun x_99 ex_99 => ?_)
            have tx_99 : x_99.toInt = 48 + x_98.toInt := v_add ex_99 (by show -2147483648 ≤ 48 + x_98.toInt; omega) (by show 48 + x_98.toInt < 2147483648; omega)
            have hPc := hP.sub (ws' := [(oM, .inr (12, [.ref mT, .int zt, .ref mS, .ref mX, .int zp, .int zf, .ref mL, .ref mB, .ref mD, .ref m1, .ref m2, .int zh, .ref mR, .int zr, .ref x1, .ref x2, .ref x3, .int zc, .ref mH, .int zy, .int za, .int zb, .int zs, .int zq, .int zw, .int ze, .ref mY, .int zn_91, .ref mE, .int zm, .int zl, .ref mW, .int zk, .ref mO, .int zd, .ref y1, .ref y2, .ref y3, .ref y4, .ref mZ])), (mY, .inl (cI, 2600, .inl eY_91))]) [1, 2] rfl
            have hDc := hD.sub (ws' := [(oM, .inr (12, [.ref mT, .int zt, .ref mS, .ref mX, .int zp, .int zf, .ref mL, .ref mB, .ref mD, .ref m1, .ref m2, .int zh, .ref mR, .int zr, .ref x1, .ref x2, .ref x3, .int zc, .ref mH, .int zy, .int za, .int zb, .int zs, .int zq, .int zw, .int ze, .ref mY, .int zn_91, .ref mE, .int zm, .int zl, .ref mW, .int zk, .ref mO, .int zd, .ref y1, .ref y2, .ref y3, .ref y4, .ref mZ])), (mY, .inl (cI, 2600, .inl eY_91))]) [1, 2] (by decide +kernel) rfl
            have hFc := va_free (wc := [(oM, .inr (12, [.ref mT, .int zt, .ref mS, .ref mX, .int zp, .int zf, .ref mL, .ref mB, .ref mD, .ref m1, .ref m2, .int zh, .ref mR, .int zr, .ref x1, .ref x2, .ref x3, .int zc, .ref mH, .int zy, .int za, .int zb, .int zs, .int zq, .int zw, .int ze, .ref mY, .int zn_91, .ref mE, .int zm, .int zl, .ref mW, .int zk, .ref mO, .int zd, .ref y1, .ref y2, .ref y3, .ref y4, .ref mZ])), (mY, .inl (cI, 2600, .inl eY_91))]) hD hS hA [1, 2] rfl
            refine va_callv (va_runV (As := [.int x_99]) (rest := []) ⟨hx, hb, hml, hown, hts⟩ (m_X12_put l dC dI cI cS H.size oM mT mS mX mL mB mD m1 m2 mR x1 x2 x3 mH mY mE mW mO y1 y2 y3 y4 mZ zt zp zf zh zr zc zy za zb zs zq zw ze zn_91 zm zl zk zd eY_91 x_99 (g_zt) (g_zp) (g_zf) (g_zh) (g_zr) (g_zc) (g_zy) (g_za) (g_zb) (g_zs) (g_zq) (hf91_0) (g_zm) (g_zk) (hf91_1) (by omega) (by omega)) (cwV 1 hts gX12_writeLetter_X12_put rfl rfl rfl (by decide +kernel) ⟨Nat.le_of_ble_eq_true rfl, Nat.le_of_ble_eq_true rfl⟩) ⟨fun a U g mk q => by obtain ⟨q0, q1, qP, qK, qD⟩ := q; exact ⟨q0, q1, qP, va_K.moved (u := U) (U := U.calling g mk a) (Vm.Alike.refl U.vm) qK, qD⟩, va_recv hK hPc (ci := 12) (q0 := 0) rfl rfl, fun U hU hW => ⟨rfl, by rw [hU], by rw [hU]; exact hPc, va_K.moved hW.alike hK, hDc.weaken (fun _ _ _ _ => trivial)⟩⟩ rfl rfl hl.1 rfl (lv_room (Nat.le_of_ble_eq_true rfl)) dX12_writeLetter_198 ⟨Nat.le_of_ble_eq_true rfl, Nat.le_of_ble_eq_true rfl⟩) hS (fun q _ h => hFc q h) hFc (fun u t H1 locs ht hvm hw hB hz1 hk1 hSn => ?_)
            obtain ⟨zn_100, eY_100, hP1, hD1, hf100_0, hf100_1, hf100_2⟩ := hB
            rw [ht] at hP1
            obtain ⟨hPn, hDn⟩ := va_join (wr := [(mB, .inl (cS, 131072, .inl eB))]) (w1 := [(oM, .inr (12, [.ref mT, .int zt, .ref mS, .ref mX, .int zp, .int zf, .ref mL, .ref mB, .ref mD, .ref m1, .ref m2, .int zh, .ref mR, .int zr, .ref x1, .ref x2, .ref x3, .int zc, .ref mH, .int zy, .int za, .int zb, .int zs, .int zq, .int zw, .int ze, .ref mY, .int zn_100, .ref mE, .int zm, .int zl, .ref mW, .int zk, .ref mO, .int zd, .ref y1, .ref y2, .ref y3, .ref y4, .ref mZ])), (mY, .inl (cI, 2600, .inl eY_100))]) hP hD [1, 2] [0] rfl rfl (by decide +kernel) (by decide +kernel) hk1 hFc hP1 hD1
            clear hP hD hS hPc hDc hFc hk1 hz1 hvm ht hP1 hD1
            generalize H1 = H at hPn hSn ⊢
            have hP : va_P (dC, dI) vwCl [(mB, .inl (cS, 131072, .inl eB)), (oM, .inr (12, [.ref mT, .int zt, .ref mS, .ref mX, .int zp, .int zf, .ref mL, .ref mB, .ref mD, .ref m1, .ref m2, .int zh, .ref mR, .int zr, .ref x1, .ref x2, .ref x3, .int zc, .ref mH, .int zy, .int za, .int zb, .int zs, .int zq, .int zw, .int ze, .ref mY, .int zn_100, .ref mE, .int zm, .int zl, .ref mW, .int zk, .ref mO, .int zd, .ref y1, .ref y2, .ref y3, .ref y4, .ref mZ])), (mY, .inl (cI, 2600, .inl eY_100))] H := hPn
            have hD : va_D A [(mB, .inl (cS, 131072, .inl eB)), (oM, .inr (12, [.ref mT, .int zt, .ref mS, .ref mX, .int zp, .int zf, .ref mL, .ref mB, .ref mD, .ref m1, .ref m2, .int zh, .ref mR, .int zr, .ref x1, .ref x2, .ref x3, .int zc, .ref mH, .int zy, .int za, .int zb, .int zs, .int zq, .int zw, .int ze, .ref mY, .int zn_100, .ref mE, .int zm, .int zl, .ref mW, .int zk, .ref mO, .int zd, .ref y1, .ref y2, .ref y3, .ref y4, .ref mZ])), (mY, .inl (cI, 2600, .inl eY_100))] := hDn
            have hS := hSn
            clear hPn hDn hSn
            refine lv_iload_n hx hb dX12_writeLetter_201 rfl (lv_at hl 0 rfl) ?_
            refine lv_bipush (v := 10) hx hb dX12_writeLetter_202 (by decide) ?_
            refine lv_idiv hx hb dX12_writeLetter_204 (by decide) ?_
            refine k_i (y := 1) (by decide) ?_
            refine lv_istore_n (lv' := [(3, .int 1), (0, .ref oM), (1, .int cd), (2, .int x)]) hx hb dX12_writeLetter_205 rfl hl (by decide) rfl (fun ls hl => ?_)
            refine lv_goto (tgt := 184) hx hb dX12_writeLetter_206 (by decide) ?_
            refine lv_iload_n hx hb dX12_writeLetter_184 rfl (lv_at hl 0 rfl) ?_
            refine lv_if_le (tgt := 209) hx hb dX12_writeLetter_185 (by decide) (fun c_101 => absurd c_101 (by decide)) (fun c_101 => ?_)
            refine lv_aload_n hx hb dX12_writeLetter_188 rfl (lv_at hl 1 rfl) ?_
            refine lv_bipush (v := 48) hx hb dX12_writeLetter_189 (by decide) ?_
            refine lv_iload_n hx hb dX12_writeLetter_191 rfl (lv_at hl 3 rfl) ?_
            refine lv_iload_n hx hb dX12_writeLetter_192 rfl (lv_at hl 0 rfl) ?_
            refine lv_idiv hx hb dX12_writeLetter_193 (by decide) ?_
            refine lv_topi (fun x_102 ex_102 => ?_)
            have tx_102 : x_102.toInt = x.toInt / 1 := v_div ex_102 (by omega) (by decide)
            refine lv_bipush (v := 10) hx hb dX12_writeLetter_194 (by decide) ?_
            refine lv_irem hx hb dX12_writeLetter_196 (by decide) ?_
            refine lv_topi (fun x_103 ex_103 => ?_)
            have tx_103 : x_103.toInt = x_102.toInt % 10 := v_rem ex_103 (by omega) (by decide)
            refine lv_iadd hx hb dX12_writeLetter_197 ?_
            refine lv_topi (fun x_104 ex_104 => ?_)
            have tx_104 : x_104.toInt = 48 + x_103.toInt := v_add ex_104 (by show -2147483648 ≤ 48 + x_103.toInt; omega) (by show 48 + x_103.toInt < 2147483648; omega)
            have hPc := hP.sub (ws' := [(oM, .inr (12, [.ref mT, .int zt, .ref mS, .ref mX, .int zp, .int zf, .ref mL, .ref mB, .ref mD, .ref m1, .ref m2, .int zh, .ref mR, .int zr, .ref x1, .ref x2, .ref x3, .int zc, .ref mH, .int zy, .int za, .int zb, .int zs, .int zq, .int zw, .int ze, .ref mY, .int zn_100, .ref mE, .int zm, .int zl, .ref mW, .int zk, .ref mO, .int zd, .ref y1, .ref y2, .ref y3, .ref y4, .ref mZ])), (mY, .inl (cI, 2600, .inl eY_100))]) [1, 2] rfl
            have hDc := hD.sub (ws' := [(oM, .inr (12, [.ref mT, .int zt, .ref mS, .ref mX, .int zp, .int zf, .ref mL, .ref mB, .ref mD, .ref m1, .ref m2, .int zh, .ref mR, .int zr, .ref x1, .ref x2, .ref x3, .int zc, .ref mH, .int zy, .int za, .int zb, .int zs, .int zq, .int zw, .int ze, .ref mY, .int zn_100, .ref mE, .int zm, .int zl, .ref mW, .int zk, .ref mO, .int zd, .ref y1, .ref y2, .ref y3, .ref y4, .ref mZ])), (mY, .inl (cI, 2600, .inl eY_100))]) [1, 2] (by decide +kernel) rfl
            have hFc := va_free (wc := [(oM, .inr (12, [.ref mT, .int zt, .ref mS, .ref mX, .int zp, .int zf, .ref mL, .ref mB, .ref mD, .ref m1, .ref m2, .int zh, .ref mR, .int zr, .ref x1, .ref x2, .ref x3, .int zc, .ref mH, .int zy, .int za, .int zb, .int zs, .int zq, .int zw, .int ze, .ref mY, .int zn_100, .ref mE, .int zm, .int zl, .ref mW, .int zk, .ref mO, .int zd, .ref y1, .ref y2, .ref y3, .ref y4, .ref mZ])), (mY, .inl (cI, 2600, .inl eY_100))]) hD hS hA [1, 2] rfl
            refine va_callv (va_runV (As := [.int x_104]) (rest := []) ⟨hx, hb, hml, hown, hts⟩ (m_X12_put l dC dI cI cS H.size oM mT mS mX mL mB mD m1 m2 mR x1 x2 x3 mH mY mE mW mO y1 y2 y3 y4 mZ zt zp zf zh zr zc zy za zb zs zq zw ze zn_100 zm zl zk zd eY_100 x_104 (g_zt) (g_zp) (g_zf) (g_zh) (g_zr) (g_zc) (g_zy) (g_za) (g_zb) (g_zs) (g_zq) (hf100_0) (g_zm) (g_zk) (hf100_1) (by omega) (by omega)) (cwV 1 hts gX12_writeLetter_X12_put rfl rfl rfl (by decide +kernel) ⟨Nat.le_of_ble_eq_true rfl, Nat.le_of_ble_eq_true rfl⟩) ⟨fun a U g mk q => by obtain ⟨q0, q1, qP, qK, qD⟩ := q; exact ⟨q0, q1, qP, va_K.moved (u := U) (U := U.calling g mk a) (Vm.Alike.refl U.vm) qK, qD⟩, va_recv hK hPc (ci := 12) (q0 := 0) rfl rfl, fun U hU hW => ⟨rfl, by rw [hU], by rw [hU]; exact hPc, va_K.moved hW.alike hK, hDc.weaken (fun _ _ _ _ => trivial)⟩⟩ rfl rfl hl.1 rfl (lv_room (Nat.le_of_ble_eq_true rfl)) dX12_writeLetter_198 ⟨Nat.le_of_ble_eq_true rfl, Nat.le_of_ble_eq_true rfl⟩) hS (fun q _ h => hFc q h) hFc (fun u t H1 locs ht hvm hw hB hz1 hk1 hSn => ?_)
            obtain ⟨zn_105, eY_105, hP1, hD1, hf105_0, hf105_1, hf105_2⟩ := hB
            rw [ht] at hP1
            obtain ⟨hPn, hDn⟩ := va_join (wr := [(mB, .inl (cS, 131072, .inl eB))]) (w1 := [(oM, .inr (12, [.ref mT, .int zt, .ref mS, .ref mX, .int zp, .int zf, .ref mL, .ref mB, .ref mD, .ref m1, .ref m2, .int zh, .ref mR, .int zr, .ref x1, .ref x2, .ref x3, .int zc, .ref mH, .int zy, .int za, .int zb, .int zs, .int zq, .int zw, .int ze, .ref mY, .int zn_105, .ref mE, .int zm, .int zl, .ref mW, .int zk, .ref mO, .int zd, .ref y1, .ref y2, .ref y3, .ref y4, .ref mZ])), (mY, .inl (cI, 2600, .inl eY_105))]) hP hD [1, 2] [0] rfl rfl (by decide +kernel) (by decide +kernel) hk1 hFc hP1 hD1
            clear hP hD hS hPc hDc hFc hk1 hz1 hvm ht hP1 hD1
            generalize H1 = H at hPn hSn ⊢
            have hP : va_P (dC, dI) vwCl [(mB, .inl (cS, 131072, .inl eB)), (oM, .inr (12, [.ref mT, .int zt, .ref mS, .ref mX, .int zp, .int zf, .ref mL, .ref mB, .ref mD, .ref m1, .ref m2, .int zh, .ref mR, .int zr, .ref x1, .ref x2, .ref x3, .int zc, .ref mH, .int zy, .int za, .int zb, .int zs, .int zq, .int zw, .int ze, .ref mY, .int zn_105, .ref mE, .int zm, .int zl, .ref mW, .int zk, .ref mO, .int zd, .ref y1, .ref y2, .ref y3, .ref y4, .ref mZ])), (mY, .inl (cI, 2600, .inl eY_105))] H := hPn
            have hD : va_D A [(mB, .inl (cS, 131072, .inl eB)), (oM, .inr (12, [.ref mT, .int zt, .ref mS, .ref mX, .int zp, .int zf, .ref mL, .ref mB, .ref mD, .ref m1, .ref m2, .int zh, .ref mR, .int zr, .ref x1, .ref x2, .ref x3, .int zc, .ref mH, .int zy, .int za, .int zb, .int zs, .int zq, .int zw, .int ze, .ref mY, .int zn_105, .ref mE, .int zm, .int zl, .ref mW, .int zk, .ref mO, .int zd, .ref y1, .ref y2, .ref y3, .ref y4, .ref mZ])), (mY, .inl (cI, 2600, .inl eY_105))] := hDn
            have hS := hSn
            clear hPn hDn hSn
            refine lv_iload_n hx hb dX12_writeLetter_201 rfl (lv_at hl 0 rfl) ?_
            refine lv_bipush (v := 10) hx hb dX12_writeLetter_202 (by decide) ?_
            refine lv_idiv hx hb dX12_writeLetter_204 (by decide) ?_
            refine k_i (y := 0) (by decide) ?_
            refine lv_istore_n (lv' := [(3, .int 0), (0, .ref oM), (1, .int cd), (2, .int x)]) hx hb dX12_writeLetter_205 rfl hl (by decide) rfl (fun ls hl => ?_)
            refine lv_goto (tgt := 184) hx hb dX12_writeLetter_206 (by decide) ?_
            refine lv_iload_n hx hb dX12_writeLetter_184 rfl (lv_at hl 0 rfl) ?_
            refine lv_if_le (tgt := 209) hx hb dX12_writeLetter_185 (by decide) (fun c_106 => ?_) (fun c_106 => absurd c_106 (by decide))
            refine lv_aload_n hx hb dX12_writeLetter_209 rfl (lv_at hl 1 rfl) ?_
            refine lv_bipush (v := 59) hx hb dX12_writeLetter_210 (by decide) ?_
            have hPc := hP.sub (ws' := [(oM, .inr (12, [.ref mT, .int zt, .ref mS, .ref mX, .int zp, .int zf, .ref mL, .ref mB, .ref mD, .ref m1, .ref m2, .int zh, .ref mR, .int zr, .ref x1, .ref x2, .ref x3, .int zc, .ref mH, .int zy, .int za, .int zb, .int zs, .int zq, .int zw, .int ze, .ref mY, .int zn_105, .ref mE, .int zm, .int zl, .ref mW, .int zk, .ref mO, .int zd, .ref y1, .ref y2, .ref y3, .ref y4, .ref mZ])), (mY, .inl (cI, 2600, .inl eY_105))]) [1, 2] rfl
            have hDc := hD.sub (ws' := [(oM, .inr (12, [.ref mT, .int zt, .ref mS, .ref mX, .int zp, .int zf, .ref mL, .ref mB, .ref mD, .ref m1, .ref m2, .int zh, .ref mR, .int zr, .ref x1, .ref x2, .ref x3, .int zc, .ref mH, .int zy, .int za, .int zb, .int zs, .int zq, .int zw, .int ze, .ref mY, .int zn_105, .ref mE, .int zm, .int zl, .ref mW, .int zk, .ref mO, .int zd, .ref y1, .ref y2, .ref y3, .ref y4, .ref mZ])), (mY, .inl (cI, 2600, .inl eY_105))]) [1, 2] (by decide +kernel) rfl
            have hFc := va_free (wc := [(oM, .inr (12, [.ref mT, .int zt, .ref mS, .ref mX, .int zp, .int zf, .ref mL, .ref mB, .ref mD, .ref m1, .ref m2, .int zh, .ref mR, .int zr, .ref x1, .ref x2, .ref x3, .int zc, .ref mH, .int zy, .int za, .int zb, .int zs, .int zq, .int zw, .int ze, .ref mY, .int zn_105, .ref mE, .int zm, .int zl, .ref mW, .int zk, .ref mO, .int zd, .ref y1, .ref y2, .ref y3, .ref y4, .ref mZ])), (mY, .inl (cI, 2600, .inl eY_105))]) hD hS hA [1, 2] rfl
            refine va_callv (va_runV (As := [.int 59]) (rest := []) ⟨hx, hb, hml, hown, hts⟩ (m_X12_put l dC dI cI cS H.size oM mT mS mX mL mB mD m1 m2 mR x1 x2 x3 mH mY mE mW mO y1 y2 y3 y4 mZ zt zp zf zh zr zc zy za zb zs zq zw ze zn_105 zm zl zk zd eY_105 59 (g_zt) (g_zp) (g_zf) (g_zh) (g_zr) (g_zc) (g_zy) (g_za) (g_zb) (g_zs) (g_zq) (hf105_0) (g_zm) (g_zk) (hf105_1) (by decide) (by omega)) (cwV 1 hts gX12_writeLetter_X12_put rfl rfl rfl (by decide +kernel) ⟨Nat.le_of_ble_eq_true rfl, Nat.le_of_ble_eq_true rfl⟩) ⟨fun a U g mk q => by obtain ⟨q0, q1, qP, qK, qD⟩ := q; exact ⟨q0, q1, qP, va_K.moved (u := U) (U := U.calling g mk a) (Vm.Alike.refl U.vm) qK, qD⟩, va_recv hK hPc (ci := 12) (q0 := 0) rfl rfl, fun U hU hW => ⟨rfl, by rw [hU], by rw [hU]; exact hPc, va_K.moved hW.alike hK, hDc.weaken (fun _ _ _ _ => trivial)⟩⟩ rfl rfl hl.1 rfl (lv_room (Nat.le_of_ble_eq_true rfl)) dX12_writeLetter_212 ⟨Nat.le_of_ble_eq_true rfl, Nat.le_of_ble_eq_true rfl⟩) hS (fun q _ h => hFc q h) hFc (fun u t H1 locs ht hvm hw hB hz1 hk1 hSn => ?_)
            obtain ⟨zn_107, eY_107, hP1, hD1, hf107_0, hf107_1, hf107_2⟩ := hB
            rw [ht] at hP1
            obtain ⟨hPn, hDn⟩ := va_join (wr := [(mB, .inl (cS, 131072, .inl eB))]) (w1 := [(oM, .inr (12, [.ref mT, .int zt, .ref mS, .ref mX, .int zp, .int zf, .ref mL, .ref mB, .ref mD, .ref m1, .ref m2, .int zh, .ref mR, .int zr, .ref x1, .ref x2, .ref x3, .int zc, .ref mH, .int zy, .int za, .int zb, .int zs, .int zq, .int zw, .int ze, .ref mY, .int zn_107, .ref mE, .int zm, .int zl, .ref mW, .int zk, .ref mO, .int zd, .ref y1, .ref y2, .ref y3, .ref y4, .ref mZ])), (mY, .inl (cI, 2600, .inl eY_107))]) hP hD [1, 2] [0] rfl rfl (by decide +kernel) (by decide +kernel) hk1 hFc hP1 hD1
            clear hP hD hS hPc hDc hFc hk1 hz1 hvm ht hP1 hD1
            generalize H1 = H at hPn hSn ⊢
            have hP : va_P (dC, dI) vwCl [(mB, .inl (cS, 131072, .inl eB)), (oM, .inr (12, [.ref mT, .int zt, .ref mS, .ref mX, .int zp, .int zf, .ref mL, .ref mB, .ref mD, .ref m1, .ref m2, .int zh, .ref mR, .int zr, .ref x1, .ref x2, .ref x3, .int zc, .ref mH, .int zy, .int za, .int zb, .int zs, .int zq, .int zw, .int ze, .ref mY, .int zn_107, .ref mE, .int zm, .int zl, .ref mW, .int zk, .ref mO, .int zd, .ref y1, .ref y2, .ref y3, .ref y4, .ref mZ])), (mY, .inl (cI, 2600, .inl eY_107))] H := hPn
            have hD : va_D A [(mB, .inl (cS, 131072, .inl eB)), (oM, .inr (12, [.ref mT, .int zt, .ref mS, .ref mX, .int zp, .int zf, .ref mL, .ref mB, .ref mD, .ref m1, .ref m2, .int zh, .ref mR, .int zr, .ref x1, .ref x2, .ref x3, .int zc, .ref mH, .int zy, .int za, .int zb, .int zs, .int zq, .int zw, .int ze, .ref mY, .int zn_107, .ref mE, .int zm, .int zl, .ref mW, .int zk, .ref mO, .int zd, .ref y1, .ref y2, .ref y3, .ref y4, .ref mZ])), (mY, .inl (cI, 2600, .inl eY_107))] := hDn
            have hS := hSn
            clear hPn hDn hSn
            refine lv_goto (tgt := 244) hx hb dX12_writeLetter_215 (by decide) ?_
            refine lv_iconst (v := 1) hx hb dX12_writeLetter_244 (by decide) ?_
            have hP9 := hP.sub (ws' := [(oM, .inr (12, [.ref mT, .int zt, .ref mS, .ref mX, .int zp, .int zf, .ref mL, .ref mB, .ref mD, .ref m1, .ref m2, .int zh, .ref mR, .int zr, .ref x1, .ref x2, .ref x3, .int zc, .ref mH, .int zy, .int za, .int zb, .int zs, .int zq, .int zw, .int ze, .ref mY, .int zn_107, .ref mE, .int zm, .int zl, .ref mW, .int zk, .ref mO, .int zd, .ref y1, .ref y2, .ref y3, .ref y4, .ref mZ])), (mY, .inl (cI, 2600, .inl eY_107)), (mB, .inl (cS, 131072, .inl eB))]) [1, 2, 0] rfl
            have hD9 := hD.sub (ws' := [(oM, .inr (12, [.ref mT, .int zt, .ref mS, .ref mX, .int zp, .int zf, .ref mL, .ref mB, .ref mD, .ref m1, .ref m2, .int zh, .ref mR, .int zr, .ref x1, .ref x2, .ref x3, .int zc, .ref mH, .int zy, .int za, .int zb, .int zs, .int zq, .int zw, .int ze, .ref mY, .int zn_107, .ref mE, .int zm, .int zl, .ref mW, .int zk, .ref mO, .int zd, .ref y1, .ref y2, .ref y3, .ref y4, .ref mZ])), (mY, .inl (cI, 2600, .inl eY_107)), (mB, .inl (cS, 131072, .inl eB))]) [1, 2, 0] (by decide +kernel) rfl
            rw [hQQ]
            exact W.zret (v := 1) (ty := .boolean) hx hb hr (rfl) (fun t ht hW => ⟨⟨1, 1, rfl, rfl, ⟨zn_107, eY_107, by rw [ht]; exact hP9, hD9, hf107_0, hf107_1, by decide, by show zn_107.toInt ≤ zn.toInt + 8; omega⟩⟩, hS.F ht⟩) hS.2.2 dX12_writeLetter_245
          · have tc_89 : ¬ x.toInt = 38 := v_ne c_89
            refine lv_aload_n hx hb dX12_writeLetter_146 rfl (lv_at hl 0 rfl) ?_
            refine lv_iload_n hx hb dX12_writeLetter_147 rfl (lv_at hl 2 rfl) ?_
            have hPc := hP.sub (ws' := [(oM, .inr (12, [.ref mT, .int zt, .ref mS, .ref mX, .int zp, .int zf, .ref mL, .ref mB, .ref mD, .ref m1, .ref m2, .int zh, .ref mR, .int zr, .ref x1, .ref x2, .ref x3, .int zc, .ref mH, .int zy, .int za, .int zb, .int zs, .int zq, .int zw, .int ze, .ref mY, .int zn, .ref mE, .int zm, .int zl, .ref mW, .int zk, .ref mO, .int zd, .ref y1, .ref y2, .ref y3, .ref y4, .ref mZ])), (mY, .inl (cI, 2600, .inl eY))]) [0, 1] rfl
            have hDc := hD.sub (ws' := [(oM, .inr (12, [.ref mT, .int zt, .ref mS, .ref mX, .int zp, .int zf, .ref mL, .ref mB, .ref mD, .ref m1, .ref m2, .int zh, .ref mR, .int zr, .ref x1, .ref x2, .ref x3, .int zc, .ref mH, .int zy, .int za, .int zb, .int zs, .int zq, .int zw, .int ze, .ref mY, .int zn, .ref mE, .int zm, .int zl, .ref mW, .int zk, .ref mO, .int zd, .ref y1, .ref y2, .ref y3, .ref y4, .ref mZ])), (mY, .inl (cI, 2600, .inl eY))]) [0, 1] (by decide +kernel) rfl
            have hFc := va_free (wc := [(oM, .inr (12, [.ref mT, .int zt, .ref mS, .ref mX, .int zp, .int zf, .ref mL, .ref mB, .ref mD, .ref m1, .ref m2, .int zh, .ref mR, .int zr, .ref x1, .ref x2, .ref x3, .int zc, .ref mH, .int zy, .int za, .int zb, .int zs, .int zq, .int zw, .int ze, .ref mY, .int zn, .ref mE, .int zm, .int zl, .ref mW, .int zk, .ref mO, .int zd, .ref y1, .ref y2, .ref y3, .ref y4, .ref mZ])), (mY, .inl (cI, 2600, .inl eY))]) hD hS hA [0, 1] rfl
            refine va_callv (va_runV (As := [.int x]) (rest := []) ⟨hx, hb, hml, hown, hts⟩ (m_X12_put l dC dI cI cS s.heap.size oM mT mS mX mL mB mD m1 m2 mR x1 x2 x3 mH mY mE mW mO y1 y2 y3 y4 mZ zt zp zf zh zr zc zy za zb zs zq zw ze zn zm zl zk zd eY x (g_zt) (g_zp) (g_zf) (g_zh) (g_zr) (g_zc) (g_zy) (g_za) (g_zb) (g_zs) (g_zq) (g_zn) (g_zm) (g_zk) (g_eY) (by omega) (by omega)) (cwV 1 hts gX12_writeLetter_X12_put rfl rfl rfl (by decide +kernel) ⟨Nat.le_of_ble_eq_true rfl, Nat.le_of_ble_eq_true rfl⟩) ⟨fun a U g mk q => by obtain ⟨q0, q1, qP, qK, qD⟩ := q; exact ⟨q0, q1, qP, va_K.moved (u := U) (U := U.calling g mk a) (Vm.Alike.refl U.vm) qK, qD⟩, va_recv hK hPc (ci := 12) (q0 := 0) rfl rfl, fun U hU hW => ⟨rfl, by rw [hU], by rw [hU]; exact hPc, va_K.moved hW.alike hK, hDc.weaken (fun _ _ _ _ => trivial)⟩⟩ rfl rfl hl.1 rfl (lv_room (Nat.le_of_ble_eq_true rfl)) dX12_writeLetter_148 ⟨Nat.le_of_ble_eq_true rfl, Nat.le_of_ble_eq_true rfl⟩) hS (fun q _ h => hFc q h) hFc (fun u t H1 locs ht hvm hw hB hz1 hk1 hSn => ?_)
            obtain ⟨zn_108, eY_108, hP1, hD1, hf108_0, hf108_1, hf108_2⟩ := hB
            rw [ht] at hP1
            obtain ⟨hPn, hDn⟩ := va_join (wr := [(mB, .inl (cS, 131072, .inl eB))]) (w1 := [(oM, .inr (12, [.ref mT, .int zt, .ref mS, .ref mX, .int zp, .int zf, .ref mL, .ref mB, .ref mD, .ref m1, .ref m2, .int zh, .ref mR, .int zr, .ref x1, .ref x2, .ref x3, .int zc, .ref mH, .int zy, .int za, .int zb, .int zs, .int zq, .int zw, .int ze, .ref mY, .int zn_108, .ref mE, .int zm, .int zl, .ref mW, .int zk, .ref mO, .int zd, .ref y1, .ref y2, .ref y3, .ref y4, .ref mZ])), (mY, .inl (cI, 2600, .inl eY_108))]) hP hD [0, 1] [2] rfl rfl (by decide +kernel) (by decide +kernel) hk1 hFc hP1 hD1
            clear hP hD hS hPc hDc hFc hk1 hz1 hvm ht hP1 hD1
            generalize H1 = H at hPn hSn ⊢
            have hP : va_P (dC, dI) vwCl [(mB, .inl (cS, 131072, .inl eB)), (oM, .inr (12, [.ref mT, .int zt, .ref mS, .ref mX, .int zp, .int zf, .ref mL, .ref mB, .ref mD, .ref m1, .ref m2, .int zh, .ref mR, .int zr, .ref x1, .ref x2, .ref x3, .int zc, .ref mH, .int zy, .int za, .int zb, .int zs, .int zq, .int zw, .int ze, .ref mY, .int zn_108, .ref mE, .int zm, .int zl, .ref mW, .int zk, .ref mO, .int zd, .ref y1, .ref y2, .ref y3, .ref y4, .ref mZ])), (mY, .inl (cI, 2600, .inl eY_108))] H := hPn
            have hD : va_D A [(mB, .inl (cS, 131072, .inl eB)), (oM, .inr (12, [.ref mT, .int zt, .ref mS, .ref mX, .int zp, .int zf, .ref mL, .ref mB, .ref mD, .ref m1, .ref m2, .int zh, .ref mR, .int zr, .ref x1, .ref x2, .ref x3, .int zc, .ref mH, .int zy, .int za, .int zb, .int zs, .int zq, .int zw, .int ze, .ref mY, .int zn_108, .ref mE, .int zm, .int zl, .ref mW, .int zk, .ref mO, .int zd, .ref y1, .ref y2, .ref y3, .ref y4, .ref mZ])), (mY, .inl (cI, 2600, .inl eY_108))] := hDn
            have hS := hSn
            clear hPn hDn hSn
            refine lv_goto (tgt := 244) hx hb dX12_writeLetter_151 (by decide) ?_
            refine lv_iconst (v := 1) hx hb dX12_writeLetter_244 (by decide) ?_
            have hP9 := hP.sub (ws' := [(oM, .inr (12, [.ref mT, .int zt, .ref mS, .ref mX, .int zp, .int zf, .ref mL, .ref mB, .ref mD, .ref m1, .ref m2, .int zh, .ref mR, .int zr, .ref x1, .ref x2, .ref x3, .int zc, .ref mH, .int zy, .int za, .int zb, .int zs, .int zq, .int zw, .int ze, .ref mY, .int zn_108, .ref mE, .int zm, .int zl, .ref mW, .int zk, .ref mO, .int zd, .ref y1, .ref y2, .ref y3, .ref y4, .ref mZ])), (mY, .inl (cI, 2600, .inl eY_108)), (mB, .inl (cS, 131072, .inl eB))]) [1, 2, 0] rfl
            have hD9 := hD.sub (ws' := [(oM, .inr (12, [.ref mT, .int zt, .ref mS, .ref mX, .int zp, .int zf, .ref mL, .ref mB, .ref mD, .ref m1, .ref m2, .int zh, .ref mR, .int zr, .ref x1, .ref x2, .ref x3, .int zc, .ref mH, .int zy, .int za, .int zb, .int zs, .int zq, .int zw, .int ze, .ref mY, .int zn_108, .ref mE, .int zm, .int zl, .ref mW, .int zk, .ref mO, .int zd, .ref y1, .ref y2, .ref y3, .ref y4, .ref mZ])), (mY, .inl (cI, 2600, .inl eY_108)), (mB, .inl (cS, 131072, .inl eB))]) [1, 2, 0] (by decide +kernel) rfl
            rw [hQQ]
            exact W.zret (v := 1) (ty := .boolean) hx hb hr (rfl) (fun t ht hW => ⟨⟨1, 1, rfl, rfl, ⟨zn_108, eY_108, by rw [ht]; exact hP9, hD9, hf108_0, hf108_1, by decide, by show zn_108.toInt ≤ zn.toInt + 8; omega⟩⟩, hS.F ht⟩) hS.2.2 dX12_writeLetter_245
    · have tc_2 : cd.toInt = 2 := v_eq c_2
      refine lv_iload_n hx hb dX12_writeLetter_36 rfl (lv_at hl 2 rfl) ?_
      refine lv_sipush (v := 128) hx hb dX12_writeLetter_37 (by decide) ?_
      refine lv_icmp_ge (tgt := 51) hx hb dX12_writeLetter_40 (by decide) (fun c_109 => ?_) (fun c_109 => ?_)
      · have tc_109 : 128 ≤ x.toInt := v_le c_109
        refine lv_iload_n hx hb dX12_writeLetter_51 rfl (lv_at hl 2 rfl) ?_
        refine lv_sipush (v := 2048) hx hb dX12_writeLetter_52 (by decide) ?_
        refine lv_icmp_ge (tgt := 85) hx hb dX12_writeLetter_55 (by decide) (fun c_110 => ?_) (fun c_110 => ?_)
        · have tc_110 : 2048 ≤ x.toInt := v_le c_110
          refine lv_aload_n hx hb dX12_writeLetter_85 rfl (lv_at hl 0 rfl) ?_
          refine lv_sipush (v := 224) hx hb dX12_writeLetter_86 (by decide) ?_
          refine lv_iload_n hx hb dX12_writeLetter_89 rfl (lv_at hl 2 rfl) ?_
          refine lv_sipush (v := 4096) hx hb dX12_writeLetter_90 (by decide) ?_
          refine lv_idiv hx hb dX12_writeLetter_93 (by decide) ?_
          refine lv_topi (fun x_111 ex_111 => ?_)
          have tx_111 : x_111.toInt = x.toInt / 4096 := v_div ex_111 (by omega) (by decide)
          refine lv_iadd hx hb dX12_writeLetter_94 ?_
          refine lv_topi (fun x_112 ex_112 => ?_)
          have tx_112 : x_112.toInt = 224 + x_111.toInt := v_add ex_112 (by show -2147483648 ≤ 224 + x_111.toInt; omega) (by show 224 + x_111.toInt < 2147483648; omega)
          have hPc := hP.sub (ws' := [(oM, .inr (12, [.ref mT, .int zt, .ref mS, .ref mX, .int zp, .int zf, .ref mL, .ref mB, .ref mD, .ref m1, .ref m2, .int zh, .ref mR, .int zr, .ref x1, .ref x2, .ref x3, .int zc, .ref mH, .int zy, .int za, .int zb, .int zs, .int zq, .int zw, .int ze, .ref mY, .int zn, .ref mE, .int zm, .int zl, .ref mW, .int zk, .ref mO, .int zd, .ref y1, .ref y2, .ref y3, .ref y4, .ref mZ])), (mY, .inl (cI, 2600, .inl eY))]) [0, 1] rfl
          have hDc := hD.sub (ws' := [(oM, .inr (12, [.ref mT, .int zt, .ref mS, .ref mX, .int zp, .int zf, .ref mL, .ref mB, .ref mD, .ref m1, .ref m2, .int zh, .ref mR, .int zr, .ref x1, .ref x2, .ref x3, .int zc, .ref mH, .int zy, .int za, .int zb, .int zs, .int zq, .int zw, .int ze, .ref mY, .int zn, .ref mE, .int zm, .int zl, .ref mW, .int zk, .ref mO, .int zd, .ref y1, .ref y2, .ref y3, .ref y4, .ref mZ])), (mY, .inl (cI, 2600, .inl eY))]) [0, 1] (by decide +kernel) rfl
          have hFc := va_free (wc := [(oM, .inr (12, [.ref mT, .int zt, .ref mS, .ref mX, .int zp, .int zf, .ref mL, .ref mB, .ref mD, .ref m1, .ref m2, .int zh, .ref mR, .int zr, .ref x1, .ref x2, .ref x3, .int zc, .ref mH, .int zy, .int za, .int zb, .int zs, .int zq, .int zw, .int ze, .ref mY, .int zn, .ref mE, .int zm, .int zl, .ref mW, .int zk, .ref mO, .int zd, .ref y1, .ref y2, .ref y3, .ref y4, .ref mZ])), (mY, .inl (cI, 2600, .inl eY))]) hD hS hA [0, 1] rfl
          refine va_callv (va_runV (As := [.int x_112]) (rest := []) ⟨hx, hb, hml, hown, hts⟩ (m_X12_put l dC dI cI cS s.heap.size oM mT mS mX mL mB mD m1 m2 mR x1 x2 x3 mH mY mE mW mO y1 y2 y3 y4 mZ zt zp zf zh zr zc zy za zb zs zq zw ze zn zm zl zk zd eY x_112 (g_zt) (g_zp) (g_zf) (g_zh) (g_zr) (g_zc) (g_zy) (g_za) (g_zb) (g_zs) (g_zq) (g_zn) (g_zm) (g_zk) (g_eY) (by omega) (by omega)) (cwV 1 hts gX12_writeLetter_X12_put rfl rfl rfl (by decide +kernel) ⟨Nat.le_of_ble_eq_true rfl, Nat.le_of_ble_eq_true rfl⟩) ⟨fun a U g mk q => by obtain ⟨q0, q1, qP, qK, qD⟩ := q; exact ⟨q0, q1, qP, va_K.moved (u := U) (U := U.calling g mk a) (Vm.Alike.refl U.vm) qK, qD⟩, va_recv hK hPc (ci := 12) (q0 := 0) rfl rfl, fun U hU hW => ⟨rfl, by rw [hU], by rw [hU]; exact hPc, va_K.moved hW.alike hK, hDc.weaken (fun _ _ _ _ => trivial)⟩⟩ rfl rfl hl.1 rfl (lv_room (Nat.le_of_ble_eq_true rfl)) dX12_writeLetter_95 ⟨Nat.le_of_ble_eq_true rfl, Nat.le_of_ble_eq_true rfl⟩) hS (fun q _ h => hFc q h) hFc (fun u t H1 locs ht hvm hw hB hz1 hk1 hSn => ?_)
          obtain ⟨zn_113, eY_113, hP1, hD1, hf113_0, hf113_1, hf113_2⟩ := hB
          rw [ht] at hP1
          obtain ⟨hPn, hDn⟩ := va_join (wr := [(mB, .inl (cS, 131072, .inl eB))]) (w1 := [(oM, .inr (12, [.ref mT, .int zt, .ref mS, .ref mX, .int zp, .int zf, .ref mL, .ref mB, .ref mD, .ref m1, .ref m2, .int zh, .ref mR, .int zr, .ref x1, .ref x2, .ref x3, .int zc, .ref mH, .int zy, .int za, .int zb, .int zs, .int zq, .int zw, .int ze, .ref mY, .int zn_113, .ref mE, .int zm, .int zl, .ref mW, .int zk, .ref mO, .int zd, .ref y1, .ref y2, .ref y3, .ref y4, .ref mZ])), (mY, .inl (cI, 2600, .inl eY_113))]) hP hD [0, 1] [2] rfl rfl (by decide +kernel) (by decide +kernel) hk1 hFc hP1 hD1
          clear hP hD hS hPc hDc hFc hk1 hz1 hvm ht hP1 hD1
          generalize H1 = H at hPn hSn ⊢
          have hP : va_P (dC, dI) vwCl [(mB, .inl (cS, 131072, .inl eB)), (oM, .inr (12, [.ref mT, .int zt, .ref mS, .ref mX, .int zp, .int zf, .ref mL, .ref mB, .ref mD, .ref m1, .ref m2, .int zh, .ref mR, .int zr, .ref x1, .ref x2, .ref x3, .int zc, .ref mH, .int zy, .int za, .int zb, .int zs, .int zq, .int zw, .int ze, .ref mY, .int zn_113, .ref mE, .int zm, .int zl, .ref mW, .int zk, .ref mO, .int zd, .ref y1, .ref y2, .ref y3, .ref y4, .ref mZ])), (mY, .inl (cI, 2600, .inl eY_113))] H := hPn
          have hD : va_D A [(mB, .inl (cS, 131072, .inl eB)), (oM, .inr (12, [.ref mT, .int zt, .ref mS, .ref mX, .int zp, .int zf, .ref mL, .ref mB, .ref mD, .ref m1, .ref m2, .int zh, .ref mR, .int zr, .ref x1, .ref x2, .ref x3, .int zc, .ref mH, .int zy, .int za, .int zb, .int zs, .int zq, .int zw, .int ze, .ref mY, .int zn_113, .ref mE, .int zm, .int zl, .ref mW, .int zk, .ref mO, .int zd, .ref y1, .ref y2, .ref y3, .ref y4, .ref mZ])), (mY, .inl (cI, 2600, .inl eY_113))] := hDn
          have hS := hSn
          clear hPn hDn hSn
          refine lv_aload_n hx hb dX12_writeLetter_98 rfl (lv_at hl 0 rfl) ?_
          refine lv_sipush (v := 128) hx hb dX12_writeLetter_99 (by decide) ?_
          refine lv_iload_n hx hb dX12_writeLetter_102 rfl (lv_at hl 2 rfl) ?_
          refine lv_bipush (v := 64) hx hb dX12_writeLetter_103 (by decide) ?_
          refine lv_idiv hx hb dX12_writeLetter_105 (by decide) ?_
          refine lv_topi (fun x_114 ex_114 => ?_)
          have tx_114 : x_114.toInt = x.toInt / 64 := v_div ex_114 (by omega) (by decide)
          refine lv_bipush (v := 64) hx hb dX12_writeLetter_106 (by decide) ?_
          refine lv_irem hx hb dX12_writeLetter_108 (by decide) ?_
          refine lv_topi (fun x_115 ex_115 => ?_)
          have tx_115 : x_115.toInt = x_114.toInt % 64 := v_rem ex_115 (by omega) (by decide)
          refine lv_iadd hx hb dX12_writeLetter_109 ?_
          refine lv_topi (fun x_116 ex_116 => ?_)
          have tx_116 : x_116.toInt = 128 + x_115.toInt := v_add ex_116 (by show -2147483648 ≤ 128 + x_115.toInt; omega) (by show 128 + x_115.toInt < 2147483648; omega)
          have hPc := hP.sub (ws' := [(oM, .inr (12, [.ref mT, .int zt, .ref mS, .ref mX, .int zp, .int zf, .ref mL, .ref mB, .ref mD, .ref m1, .ref m2, .int zh, .ref mR, .int zr, .ref x1, .ref x2, .ref x3, .int zc, .ref mH, .int zy, .int za, .int zb, .int zs, .int zq, .int zw, .int ze, .ref mY, .int zn_113, .ref mE, .int zm, .int zl, .ref mW, .int zk, .ref mO, .int zd, .ref y1, .ref y2, .ref y3, .ref y4, .ref mZ])), (mY, .inl (cI, 2600, .inl eY_113))]) [1, 2] rfl
          have hDc := hD.sub (ws' := [(oM, .inr (12, [.ref mT, .int zt, .ref mS, .ref mX, .int zp, .int zf, .ref mL, .ref mB, .ref mD, .ref m1, .ref m2, .int zh, .ref mR, .int zr, .ref x1, .ref x2, .ref x3, .int zc, .ref mH, .int zy, .int za, .int zb, .int zs, .int zq, .int zw, .int ze, .ref mY, .int zn_113, .ref mE, .int zm, .int zl, .ref mW, .int zk, .ref mO, .int zd, .ref y1, .ref y2, .ref y3, .ref y4, .ref mZ])), (mY, .inl (cI, 2600, .inl eY_113))]) [1, 2] (by decide +kernel) rfl
          have hFc := va_free (wc := [(oM, .inr (12, [.ref mT, .int zt, .ref mS, .ref mX, .int zp, .int zf, .ref mL, .ref mB, .ref mD, .ref m1, .ref m2, .int zh, .ref mR, .int zr, .ref x1, .ref x2, .ref x3, .int zc, .ref mH, .int zy, .int za, .int zb, .int zs, .int zq, .int zw, .int ze, .ref mY, .int zn_113, .ref mE, .int zm, .int zl, .ref mW, .int zk, .ref mO, .int zd, .ref y1, .ref y2, .ref y3, .ref y4, .ref mZ])), (mY, .inl (cI, 2600, .inl eY_113))]) hD hS hA [1, 2] rfl
          refine va_callv (va_runV (As := [.int x_116]) (rest := []) ⟨hx, hb, hml, hown, hts⟩ (m_X12_put l dC dI cI cS H.size oM mT mS mX mL mB mD m1 m2 mR x1 x2 x3 mH mY mE mW mO y1 y2 y3 y4 mZ zt zp zf zh zr zc zy za zb zs zq zw ze zn_113 zm zl zk zd eY_113 x_116 (g_zt) (g_zp) (g_zf) (g_zh) (g_zr) (g_zc) (g_zy) (g_za) (g_zb) (g_zs) (g_zq) (hf113_0) (g_zm) (g_zk) (hf113_1) (by omega) (by omega)) (cwV 1 hts gX12_writeLetter_X12_put rfl rfl rfl (by decide +kernel) ⟨Nat.le_of_ble_eq_true rfl, Nat.le_of_ble_eq_true rfl⟩) ⟨fun a U g mk q => by obtain ⟨q0, q1, qP, qK, qD⟩ := q; exact ⟨q0, q1, qP, va_K.moved (u := U) (U := U.calling g mk a) (Vm.Alike.refl U.vm) qK, qD⟩, va_recv hK hPc (ci := 12) (q0 := 0) rfl rfl, fun U hU hW => ⟨rfl, by rw [hU], by rw [hU]; exact hPc, va_K.moved hW.alike hK, hDc.weaken (fun _ _ _ _ => trivial)⟩⟩ rfl rfl hl.1 rfl (lv_room (Nat.le_of_ble_eq_true rfl)) dX12_writeLetter_110 ⟨Nat.le_of_ble_eq_true rfl, Nat.le_of_ble_eq_true rfl⟩) hS (fun q _ h => hFc q h) hFc (fun u t H1 locs ht hvm hw hB hz1 hk1 hSn => ?_)
          obtain ⟨zn_117, eY_117, hP1, hD1, hf117_0, hf117_1, hf117_2⟩ := hB
          rw [ht] at hP1
          obtain ⟨hPn, hDn⟩ := va_join (wr := [(mB, .inl (cS, 131072, .inl eB))]) (w1 := [(oM, .inr (12, [.ref mT, .int zt, .ref mS, .ref mX, .int zp, .int zf, .ref mL, .ref mB, .ref mD, .ref m1, .ref m2, .int zh, .ref mR, .int zr, .ref x1, .ref x2, .ref x3, .int zc, .ref mH, .int zy, .int za, .int zb, .int zs, .int zq, .int zw, .int ze, .ref mY, .int zn_117, .ref mE, .int zm, .int zl, .ref mW, .int zk, .ref mO, .int zd, .ref y1, .ref y2, .ref y3, .ref y4, .ref mZ])), (mY, .inl (cI, 2600, .inl eY_117))]) hP hD [1, 2] [0] rfl rfl (by decide +kernel) (by decide +kernel) hk1 hFc hP1 hD1
          clear hP hD hS hPc hDc hFc hk1 hz1 hvm ht hP1 hD1
          generalize H1 = H at hPn hSn ⊢
          have hP : va_P (dC, dI) vwCl [(mB, .inl (cS, 131072, .inl eB)), (oM, .inr (12, [.ref mT, .int zt, .ref mS, .ref mX, .int zp, .int zf, .ref mL, .ref mB, .ref mD, .ref m1, .ref m2, .int zh, .ref mR, .int zr, .ref x1, .ref x2, .ref x3, .int zc, .ref mH, .int zy, .int za, .int zb, .int zs, .int zq, .int zw, .int ze, .ref mY, .int zn_117, .ref mE, .int zm, .int zl, .ref mW, .int zk, .ref mO, .int zd, .ref y1, .ref y2, .ref y3, .ref y4, .ref mZ])), (mY, .inl (cI, 2600, .inl eY_117))] H := hPn
          have hD : va_D A [(mB, .inl (cS, 131072, .inl eB)), (oM, .inr (12, [.ref mT, .int zt, .ref mS, .ref mX, .int zp, .int zf, .ref mL, .ref mB, .ref mD, .ref m1, .ref m2, .int zh, .ref mR, .int zr, .ref x1, .ref x2, .ref x3, .int zc, .ref mH, .int zy, .int za, .int zb, .int zs, .int zq, .int zw, .int ze, .ref mY, .int zn_117, .ref mE, .int zm, .int zl, .ref mW, .int zk, .ref mO, .int zd, .ref y1, .ref y2, .ref y3, .ref y4, .ref mZ])), (mY, .inl (cI, 2600, .inl eY_117))] := hDn
          have hS := hSn
          clear hPn hDn hSn
          refine lv_aload_n hx hb dX12_writeLetter_113 rfl (lv_at hl 0 rfl) ?_
          refine lv_sipush (v := 128) hx hb dX12_writeLetter_114 (by decide) ?_
          refine lv_iload_n hx hb dX12_writeLetter_117 rfl (lv_at hl 2 rfl) ?_
          refine lv_bipush (v := 64) hx hb dX12_writeLetter_118 (by decide) ?_
          refine lv_irem hx hb dX12_writeLetter_120 (by decide) ?_
          refine lv_topi (fun x_118 ex_118 => ?_)
          have tx_118 : x_118.toInt = x.toInt % 64 := v_rem ex_118 (by omega) (by decide)
          refine lv_iadd hx hb dX12_writeLetter_121 ?_
          refine lv_topi (fun x_119 ex_119 => ?_)
          have tx_119 : x_119.toInt = 128 + x_118.toInt := v_add ex_119 (by show -2147483648 ≤ 128 + x_118.toInt; omega) (by show 128 + x_118.toInt < 2147483648; omega)
          have hPc := hP.sub (ws' := [(oM, .inr (12, [.ref mT, .int zt, .ref mS, .ref mX, .int zp, .int zf, .ref mL, .ref mB, .ref mD, .ref m1, .ref m2, .int zh, .ref mR, .int zr, .ref x1, .ref x2, .ref x3, .int zc, .ref mH, .int zy, .int za, .int zb, .int zs, .int zq, .int zw, .int ze, .ref mY, .int zn_117, .ref mE, .int zm, .int zl, .ref mW, .int zk, .ref mO, .int zd, .ref y1, .ref y2, .ref y3, .ref y4, .ref mZ])), (mY, .inl (cI, 2600, .inl eY_117))]) [1, 2] rfl
          have hDc := hD.sub (ws' := [(oM, .inr (12, [.ref mT, .int zt, .ref mS, .ref mX, .int zp, .int zf, .ref mL, .ref mB, .ref mD, .ref m1, .ref m2, .int zh, .ref mR, .int zr, .ref x1, .ref x2, .ref x3, .int zc, .ref mH, .int zy, .int za, .int zb, .int zs, .int zq, .int zw, .int ze, .ref mY, .int zn_117, .ref mE, .int zm, .int zl, .ref mW, .int zk, .ref mO, .int zd, .ref y1, .ref y2, .ref y3, .ref y4, .ref mZ])), (mY, .inl (cI, 2600, .inl eY_117))]) [1, 2] (by decide +kernel) rfl
          have hFc := va_free (wc := [(oM, .inr (12, [.ref mT, .int zt, .ref mS, .ref mX, .int zp, .int zf, .ref mL, .ref mB, .ref mD, .ref m1, .ref m2, .int zh, .ref mR, .int zr, .ref x1, .ref x2, .ref x3, .int zc, .ref mH, .int zy, .int za, .int zb, .int zs, .int zq, .int zw, .int ze, .ref mY, .int zn_117, .ref mE, .int zm, .int zl, .ref mW, .int zk, .ref mO, .int zd, .ref y1, .ref y2, .ref y3, .ref y4, .ref mZ])), (mY, .inl (cI, 2600, .inl eY_117))]) hD hS hA [1, 2] rfl
          refine va_callv (va_runV (As := [.int x_119]) (rest := []) ⟨hx, hb, hml, hown, hts⟩ (m_X12_put l dC dI cI cS H.size oM mT mS mX mL mB mD m1 m2 mR x1 x2 x3 mH mY mE mW mO y1 y2 y3 y4 mZ zt zp zf zh zr zc zy za zb zs zq zw ze zn_117 zm zl zk zd eY_117 x_119 (g_zt) (g_zp) (g_zf) (g_zh) (g_zr) (g_zc) (g_zy) (g_za) (g_zb) (g_zs) (g_zq) (hf117_0) (g_zm) (g_zk) (hf117_1) (by omega) (by omega)) (cwV 1 hts gX12_writeLetter_X12_put rfl rfl rfl (by decide +kernel) ⟨Nat.le_of_ble_eq_true rfl, Nat.le_of_ble_eq_true rfl⟩) ⟨fun a U g mk q => by obtain ⟨q0, q1, qP, qK, qD⟩ := q; exact ⟨q0, q1, qP, va_K.moved (u := U) (U := U.calling g mk a) (Vm.Alike.refl U.vm) qK, qD⟩, va_recv hK hPc (ci := 12) (q0 := 0) rfl rfl, fun U hU hW => ⟨rfl, by rw [hU], by rw [hU]; exact hPc, va_K.moved hW.alike hK, hDc.weaken (fun _ _ _ _ => trivial)⟩⟩ rfl rfl hl.1 rfl (lv_room (Nat.le_of_ble_eq_true rfl)) dX12_writeLetter_122 ⟨Nat.le_of_ble_eq_true rfl, Nat.le_of_ble_eq_true rfl⟩) hS (fun q _ h => hFc q h) hFc (fun u t H1 locs ht hvm hw hB hz1 hk1 hSn => ?_)
          obtain ⟨zn_120, eY_120, hP1, hD1, hf120_0, hf120_1, hf120_2⟩ := hB
          rw [ht] at hP1
          obtain ⟨hPn, hDn⟩ := va_join (wr := [(mB, .inl (cS, 131072, .inl eB))]) (w1 := [(oM, .inr (12, [.ref mT, .int zt, .ref mS, .ref mX, .int zp, .int zf, .ref mL, .ref mB, .ref mD, .ref m1, .ref m2, .int zh, .ref mR, .int zr, .ref x1, .ref x2, .ref x3, .int zc, .ref mH, .int zy, .int za, .int zb, .int zs, .int zq, .int zw, .int ze, .ref mY, .int zn_120, .ref mE, .int zm, .int zl, .ref mW, .int zk, .ref mO, .int zd, .ref y1, .ref y2, .ref y3, .ref y4, .ref mZ])), (mY, .inl (cI, 2600, .inl eY_120))]) hP hD [1, 2] [0] rfl rfl (by decide +kernel) (by decide +kernel) hk1 hFc hP1 hD1
          clear hP hD hS hPc hDc hFc hk1 hz1 hvm ht hP1 hD1
          generalize H1 = H at hPn hSn ⊢
          have hP : va_P (dC, dI) vwCl [(mB, .inl (cS, 131072, .inl eB)), (oM, .inr (12, [.ref mT, .int zt, .ref mS, .ref mX, .int zp, .int zf, .ref mL, .ref mB, .ref mD, .ref m1, .ref m2, .int zh, .ref mR, .int zr, .ref x1, .ref x2, .ref x3, .int zc, .ref mH, .int zy, .int za, .int zb, .int zs, .int zq, .int zw, .int ze, .ref mY, .int zn_120, .ref mE, .int zm, .int zl, .ref mW, .int zk, .ref mO, .int zd, .ref y1, .ref y2, .ref y3, .ref y4, .ref mZ])), (mY, .inl (cI, 2600, .inl eY_120))] H := hPn
          have hD : va_D A [(mB, .inl (cS, 131072, .inl eB)), (oM, .inr (12, [.ref mT, .int zt, .ref mS, .ref mX, .int zp, .int zf, .ref mL, .ref mB, .ref mD, .ref m1, .ref m2, .int zh, .ref mR, .int zr, .ref x1, .ref x2, .ref x3, .int zc, .ref mH, .int zy, .int za, .int zb, .int zs, .int zq, .int zw, .int ze, .ref mY, .int zn_120, .ref mE, .int zm, .int zl, .ref mW, .int zk, .ref mO, .int zd, .ref y1, .ref y2, .ref y3, .ref y4, .ref mZ])), (mY, .inl (cI, 2600, .inl eY_120))] := hDn
          have hS := hSn
          clear hPn hDn hSn
          refine lv_goto (tgt := 244) hx hb dX12_writeLetter_125 (by decide) ?_
          refine lv_iconst (v := 1) hx hb dX12_writeLetter_244 (by decide) ?_
          have hP9 := hP.sub (ws' := [(oM, .inr (12, [.ref mT, .int zt, .ref mS, .ref mX, .int zp, .int zf, .ref mL, .ref mB, .ref mD, .ref m1, .ref m2, .int zh, .ref mR, .int zr, .ref x1, .ref x2, .ref x3, .int zc, .ref mH, .int zy, .int za, .int zb, .int zs, .int zq, .int zw, .int ze, .ref mY, .int zn_120, .ref mE, .int zm, .int zl, .ref mW, .int zk, .ref mO, .int zd, .ref y1, .ref y2, .ref y3, .ref y4, .ref mZ])), (mY, .inl (cI, 2600, .inl eY_120)), (mB, .inl (cS, 131072, .inl eB))]) [1, 2, 0] rfl
          have hD9 := hD.sub (ws' := [(oM, .inr (12, [.ref mT, .int zt, .ref mS, .ref mX, .int zp, .int zf, .ref mL, .ref mB, .ref mD, .ref m1, .ref m2, .int zh, .ref mR, .int zr, .ref x1, .ref x2, .ref x3, .int zc, .ref mH, .int zy, .int za, .int zb, .int zs, .int zq, .int zw, .int ze, .ref mY, .int zn_120, .ref mE, .int zm, .int zl, .ref mW, .int zk, .ref mO, .int zd, .ref y1, .ref y2, .ref y3, .ref y4, .ref mZ])), (mY, .inl (cI, 2600, .inl eY_120)), (mB, .inl (cS, 131072, .inl eB))]) [1, 2, 0] (by decide +kernel) rfl
          rw [hQQ]
          exact W.zret (v := 1) (ty := .boolean) hx hb hr (rfl) (fun t ht hW => ⟨⟨1, 1, rfl, rfl, ⟨zn_120, eY_120, by rw [ht]; exact hP9, hD9, hf120_0, hf120_1, by decide, by show zn_120.toInt ≤ zn.toInt + 8; omega⟩⟩, hS.F ht⟩) hS.2.2 dX12_writeLetter_245
        · have tc_110 : x.toInt < 2048 := v_nle c_110
          refine lv_aload_n hx hb dX12_writeLetter_58 rfl (lv_at hl 0 rfl) ?_
          refine lv_sipush (v := 192) hx hb dX12_writeLetter_59 (by decide) ?_
          refine lv_iload_n hx hb dX12_writeLetter_62 rfl (lv_at hl 2 rfl) ?_
          refine lv_bipush (v := 64) hx hb dX12_writeLetter_63 (by decide) ?_
          refine lv_idiv hx hb dX12_writeLetter_65 (by decide) ?_
          refine lv_topi (fun x_121 ex_121 => ?_)
          have tx_121 : x_121.toInt = x.toInt / 64 := v_div ex_121 (by omega) (by decide)
          refine lv_iadd hx hb dX12_writeLetter_66 ?_
          refine lv_topi (fun x_122 ex_122 => ?_)
          have tx_122 : x_122.toInt = 192 + x_121.toInt := v_add ex_122 (by show -2147483648 ≤ 192 + x_121.toInt; omega) (by show 192 + x_121.toInt < 2147483648; omega)
          have hPc := hP.sub (ws' := [(oM, .inr (12, [.ref mT, .int zt, .ref mS, .ref mX, .int zp, .int zf, .ref mL, .ref mB, .ref mD, .ref m1, .ref m2, .int zh, .ref mR, .int zr, .ref x1, .ref x2, .ref x3, .int zc, .ref mH, .int zy, .int za, .int zb, .int zs, .int zq, .int zw, .int ze, .ref mY, .int zn, .ref mE, .int zm, .int zl, .ref mW, .int zk, .ref mO, .int zd, .ref y1, .ref y2, .ref y3, .ref y4, .ref mZ])), (mY, .inl (cI, 2600, .inl eY))]) [0, 1] rfl
          have hDc := hD.sub (ws' := [(oM, .inr (12, [.ref mT, .int zt, .ref mS, .ref mX, .int zp, .int zf, .ref mL, .ref mB, .ref mD, .ref m1, .ref m2, .int zh, .ref mR, .int zr, .ref x1, .ref x2, .ref x3, .int zc, .ref mH, .int zy, .int za, .int zb, .int zs, .int zq, .int zw, .int ze, .ref mY, .int zn, .ref mE, .int zm, .int zl, .ref mW, .int zk, .ref mO, .int zd, .ref y1, .ref y2, .ref y3, .ref y4, .ref mZ])), (mY, .inl (cI, 2600, .inl eY))]) [0, 1] (by decide +kernel) rfl
          have hFc := va_free (wc := [(oM, .inr (12, [.ref mT, .int zt, .ref mS, .ref mX, .int zp, .int zf, .ref mL, .ref mB, .ref mD, .ref m1, .ref m2, .int zh, .ref mR, .int zr, .ref x1, .ref x2, .ref x3, .int zc, .ref mH, .int zy, .int za, .int zb, .int zs, .int zq, .int zw, .int ze, .ref mY, .int zn, .ref mE, .int zm, .int zl, .ref mW, .int zk, .ref mO, .int zd, .ref y1, .ref y2, .ref y3, .ref y4, .ref mZ])), (mY, .inl (cI, 2600, .inl eY))]) hD hS hA [0, 1] rfl
          refine va_callv (va_runV (As := [.int x_122]) (rest := []) ⟨hx, hb, hml, hown, hts⟩ (m_X12_put l dC dI cI cS s.heap.size oM mT mS mX mL mB mD m1 m2 mR x1 x2 x3 mH mY mE mW mO y1 y2 y3 y4 mZ zt zp zf zh zr zc zy za zb zs zq zw ze zn zm zl zk zd eY x_122 (g_zt) (g_zp) (g_zf) (g_zh) (g_zr) (g_zc) (g_zy) (g_za) (g_zb) (g_zs) (g_zq) (g_zn) (g_zm) (g_zk) (g_eY) (by omega) (by omega)) (cwV 1 hts gX12_writeLetter_X12_put rfl rfl rfl (by decide +kernel) ⟨Nat.le_of_ble_eq_true rfl, Nat.le_of_ble_eq_true rfl⟩) ⟨fun a U g mk q => by obtain ⟨q0, q1, qP, qK, qD⟩ := q; exact ⟨q0, q1, qP, va_K.moved (u := U) (U := U.calling g mk a) (Vm.Alike.refl U.vm) qK, qD⟩, va_recv hK hPc (ci := 12) (q0 := 0) rfl rfl, fun U hU hW => ⟨rfl, by rw [hU], by rw [hU]; exact hPc, va_K.moved hW.alike hK, hDc.weaken (fun _ _ _ _ => trivial)⟩⟩ rfl rfl hl.1 rfl (lv_room (Nat.le_of_ble_eq_true rfl)) dX12_writeLetter_67 ⟨Nat.le_of_ble_eq_true rfl, Nat.le_of_ble_eq_true rfl⟩) hS (fun q _ h => hFc q h) hFc (fun u t H1 locs ht hvm hw hB hz1 hk1 hSn => ?_)
          obtain ⟨zn_123, eY_123, hP1, hD1, hf123_0, hf123_1, hf123_2⟩ := hB
          rw [ht] at hP1
          obtain ⟨hPn, hDn⟩ := va_join (wr := [(mB, .inl (cS, 131072, .inl eB))]) (w1 := [(oM, .inr (12, [.ref mT, .int zt, .ref mS, .ref mX, .int zp, .int zf, .ref mL, .ref mB, .ref mD, .ref m1, .ref m2, .int zh, .ref mR, .int zr, .ref x1, .ref x2, .ref x3, .int zc, .ref mH, .int zy, .int za, .int zb, .int zs, .int zq, .int zw, .int ze, .ref mY, .int zn_123, .ref mE, .int zm, .int zl, .ref mW, .int zk, .ref mO, .int zd, .ref y1, .ref y2, .ref y3, .ref y4, .ref mZ])), (mY, .inl (cI, 2600, .inl eY_123))]) hP hD [0, 1] [2] rfl rfl (by decide +kernel) (by decide +kernel) hk1 hFc hP1 hD1
          clear hP hD hS hPc hDc hFc hk1 hz1 hvm ht hP1 hD1
          generalize H1 = H at hPn hSn ⊢
          have hP : va_P (dC, dI) vwCl [(mB, .inl (cS, 131072, .inl eB)), (oM, .inr (12, [.ref mT, .int zt, .ref mS, .ref mX, .int zp, .int zf, .ref mL, .ref mB, .ref mD, .ref m1, .ref m2, .int zh, .ref mR, .int zr, .ref x1, .ref x2, .ref x3, .int zc, .ref mH, .int zy, .int za, .int zb, .int zs, .int zq, .int zw, .int ze, .ref mY, .int zn_123, .ref mE, .int zm, .int zl, .ref mW, .int zk, .ref mO, .int zd, .ref y1, .ref y2, .ref y3, .ref y4, .ref mZ])), (mY, .inl (cI, 2600, .inl eY_123))] H := hPn
          have hD : va_D A [(mB, .inl (cS, 131072, .inl eB)), (oM, .inr (12, [.ref mT, .int zt, .ref mS, .ref mX, .int zp, .int zf, .ref mL, .ref mB, .ref mD, .ref m1, .ref m2, .int zh, .ref mR, .int zr, .ref x1, .ref x2, .ref x3, .int zc, .ref mH, .int zy, .int za, .int zb, .int zs, .int zq, .int zw, .int ze, .ref mY, .int zn_123, .ref mE, .int zm, .int zl, .ref mW, .int zk, .ref mO, .int zd, .ref y1, .ref y2, .ref y3, .ref y4, .ref mZ])), (mY, .inl (cI, 2600, .inl eY_123))] := hDn
          have hS := hSn
          clear hPn hDn hSn
          refine lv_aload_n hx hb dX12_writeLetter_70 rfl (lv_at hl 0 rfl) ?_
          refine lv_sipush (v := 128) hx hb dX12_writeLetter_71 (by decide) ?_
          refine lv_iload_n hx hb dX12_writeLetter_74 rfl (lv_at hl 2 rfl) ?_
          refine lv_bipush (v := 64) hx hb dX12_writeLetter_75 (by decide) ?_
          refine lv_irem hx hb dX12_writeLetter_77 (by decide) ?_
          refine lv_topi (fun x_124 ex_124 => ?_)
          have tx_124 : x_124.toInt = x.toInt % 64 := v_rem ex_124 (by omega) (by decide)
          refine lv_iadd hx hb dX12_writeLetter_78 ?_
          refine lv_topi (fun x_125 ex_125 => ?_)
          have tx_125 : x_125.toInt = 128 + x_124.toInt := v_add ex_125 (by show -2147483648 ≤ 128 + x_124.toInt; omega) (by show 128 + x_124.toInt < 2147483648; omega)
          have hPc := hP.sub (ws' := [(oM, .inr (12, [.ref mT, .int zt, .ref mS, .ref mX, .int zp, .int zf, .ref mL, .ref mB, .ref mD, .ref m1, .ref m2, .int zh, .ref mR, .int zr, .ref x1, .ref x2, .ref x3, .int zc, .ref mH, .int zy, .int za, .int zb, .int zs, .int zq, .int zw, .int ze, .ref mY, .int zn_123, .ref mE, .int zm, .int zl, .ref mW, .int zk, .ref mO, .int zd, .ref y1, .ref y2, .ref y3, .ref y4, .ref mZ])), (mY, .inl (cI, 2600, .inl eY_123))]) [1, 2] rfl
          have hDc := hD.sub (ws' := [(oM, .inr (12, [.ref mT, .int zt, .ref mS, .ref mX, .int zp, .int zf, .ref mL, .ref mB, .ref mD, .ref m1, .ref m2, .int zh, .ref mR, .int zr, .ref x1, .ref x2, .ref x3, .int zc, .ref mH, .int zy, .int za, .int zb, .int zs, .int zq, .int zw, .int ze, .ref mY, .int zn_123, .ref mE, .int zm, .int zl, .ref mW, .int zk, .ref mO, .int zd, .ref y1, .ref y2, .ref y3, .ref y4, .ref mZ])), (mY, .inl (cI, 2600, .inl eY_123))]) [1, 2] (by decide +kernel) rfl
          have hFc := va_free (wc := [(oM, .inr (12, [.ref mT, .int zt, .ref mS, .ref mX, .int zp, .int zf, .ref mL, .ref mB, .ref mD, .ref m1, .ref m2, .int zh, .ref mR, .int zr, .ref x1, .ref x2, .ref x3, .int zc, .ref mH, .int zy, .int za, .int zb, .int zs, .int zq, .int zw, .int ze, .ref mY, .int zn_123, .ref mE, .int zm, .int zl, .ref mW, .int zk, .ref mO, .int zd, .ref y1, .ref y2, .ref y3, .ref y4, .ref mZ])), (mY, .inl (cI, 2600, .inl eY_123))]) hD hS hA [1, 2] rfl
          refine va_callv (va_runV (As := [.int x_125]) (rest := []) ⟨hx, hb, hml, hown, hts⟩ (m_X12_put l dC dI cI cS H.size oM mT mS mX mL mB mD m1 m2 mR x1 x2 x3 mH mY mE mW mO y1 y2 y3 y4 mZ zt zp zf zh zr zc zy za zb zs zq zw ze zn_123 zm zl zk zd eY_123 x_125 (g_zt) (g_zp) (g_zf) (g_zh) (g_zr) (g_zc) (g_zy) (g_za) (g_zb) (g_zs) (g_zq) (hf123_0) (g_zm) (g_zk) (hf123_1) (by omega) (by omega)) (cwV 1 hts gX12_writeLetter_X12_put rfl rfl rfl (by decide +kernel) ⟨Nat.le_of_ble_eq_true rfl, Nat.le_of_ble_eq_true rfl⟩) ⟨fun a U g mk q => by obtain ⟨q0, q1, qP, qK, qD⟩ := q; exact ⟨q0, q1, qP, va_K.moved (u := U) (U := U.calling g mk a) (Vm.Alike.refl U.vm) qK, qD⟩, va_recv hK hPc (ci := 12) (q0 := 0) rfl rfl, fun U hU hW => ⟨rfl, by rw [hU], by rw [hU]; exact hPc, va_K.moved hW.alike hK, hDc.weaken (fun _ _ _ _ => trivial)⟩⟩ rfl rfl hl.1 rfl (lv_room (Nat.le_of_ble_eq_true rfl)) dX12_writeLetter_79 ⟨Nat.le_of_ble_eq_true rfl, Nat.le_of_ble_eq_true rfl⟩) hS (fun q _ h => hFc q h) hFc (fun u t H1 locs ht hvm hw hB hz1 hk1 hSn => ?_)
          obtain ⟨zn_126, eY_126, hP1, hD1, hf126_0, hf126_1, hf126_2⟩ := hB
          rw [ht] at hP1
          obtain ⟨hPn, hDn⟩ := va_join (wr := [(mB, .inl (cS, 131072, .inl eB))]) (w1 := [(oM, .inr (12, [.ref mT, .int zt, .ref mS, .ref mX, .int zp, .int zf, .ref mL, .ref mB, .ref mD, .ref m1, .ref m2, .int zh, .ref mR, .int zr, .ref x1, .ref x2, .ref x3, .int zc, .ref mH, .int zy, .int za, .int zb, .int zs, .int zq, .int zw, .int ze, .ref mY, .int zn_126, .ref mE, .int zm, .int zl, .ref mW, .int zk, .ref mO, .int zd, .ref y1, .ref y2, .ref y3, .ref y4, .ref mZ])), (mY, .inl (cI, 2600, .inl eY_126))]) hP hD [1, 2] [0] rfl rfl (by decide +kernel) (by decide +kernel) hk1 hFc hP1 hD1
          clear hP hD hS hPc hDc hFc hk1 hz1 hvm ht hP1 hD1
          generalize H1 = H at hPn hSn ⊢
          have hP : va_P (dC, dI) vwCl [(mB, .inl (cS, 131072, .inl eB)), (oM, .inr (12, [.ref mT, .int zt, .ref mS, .ref mX, .int zp, .int zf, .ref mL, .ref mB, .ref mD, .ref m1, .ref m2, .int zh, .ref mR, .int zr, .ref x1, .ref x2, .ref x3, .int zc, .ref mH, .int zy, .int za, .int zb, .int zs, .int zq, .int zw, .int ze, .ref mY, .int zn_126, .ref mE, .int zm, .int zl, .ref mW, .int zk, .ref mO, .int zd, .ref y1, .ref y2, .ref y3, .ref y4, .ref mZ])), (mY, .inl (cI, 2600, .inl eY_126))] H := hPn
          have hD : va_D A [(mB, .inl (cS, 131072, .inl eB)), (oM, .inr (12, [.ref mT, .int zt, .ref mS, .ref mX, .int zp, .int zf, .ref mL, .ref mB, .ref mD, .ref m1, .ref m2, .int zh, .ref mR, .int zr, .ref x1, .ref x2, .ref x3, .int zc, .ref mH, .int zy, .int za, .int zb, .int zs, .int zq, .int zw, .int ze, .ref mY, .int zn_126, .ref mE, .int zm, .int zl, .ref mW, .int zk, .ref mO, .int zd, .ref y1, .ref y2, .ref y3, .ref y4, .ref mZ])), (mY, .inl (cI, 2600, .inl eY_126))] := hDn
          have hS := hSn
          clear hPn hDn hSn
          refine lv_goto (tgt := 244) hx hb dX12_writeLetter_82 (by decide) ?_
          refine lv_iconst (v := 1) hx hb dX12_writeLetter_244 (by decide) ?_
          have hP9 := hP.sub (ws' := [(oM, .inr (12, [.ref mT, .int zt, .ref mS, .ref mX, .int zp, .int zf, .ref mL, .ref mB, .ref mD, .ref m1, .ref m2, .int zh, .ref mR, .int zr, .ref x1, .ref x2, .ref x3, .int zc, .ref mH, .int zy, .int za, .int zb, .int zs, .int zq, .int zw, .int ze, .ref mY, .int zn_126, .ref mE, .int zm, .int zl, .ref mW, .int zk, .ref mO, .int zd, .ref y1, .ref y2, .ref y3, .ref y4, .ref mZ])), (mY, .inl (cI, 2600, .inl eY_126)), (mB, .inl (cS, 131072, .inl eB))]) [1, 2, 0] rfl
          have hD9 := hD.sub (ws' := [(oM, .inr (12, [.ref mT, .int zt, .ref mS, .ref mX, .int zp, .int zf, .ref mL, .ref mB, .ref mD, .ref m1, .ref m2, .int zh, .ref mR, .int zr, .ref x1, .ref x2, .ref x3, .int zc, .ref mH, .int zy, .int za, .int zb, .int zs, .int zq, .int zw, .int ze, .ref mY, .int zn_126, .ref mE, .int zm, .int zl, .ref mW, .int zk, .ref mO, .int zd, .ref y1, .ref y2, .ref y3, .ref y4, .ref mZ])), (mY, .inl (cI, 2600, .inl eY_126)), (mB, .inl (cS, 131072, .inl eB))]) [1, 2, 0] (by decide +kernel) rfl
          rw [hQQ]
          exact W.zret (v := 1) (ty := .boolean) hx hb hr (rfl) (fun t ht hW => ⟨⟨1, 1, rfl, rfl, ⟨zn_126, eY_126, by rw [ht]; exact hP9, hD9, hf126_0, hf126_1, by decide, by show zn_126.toInt ≤ zn.toInt + 8; omega⟩⟩, hS.F ht⟩) hS.2.2 dX12_writeLetter_245
      · have tc_109 : x.toInt < 128 := v_nle c_109
        refine lv_aload_n hx hb dX12_writeLetter_43 rfl (lv_at hl 0 rfl) ?_
        refine lv_iload_n hx hb dX12_writeLetter_44 rfl (lv_at hl 2 rfl) ?_
        have hPc := hP.sub (ws' := [(oM, .inr (12, [.ref mT, .int zt, .ref mS, .ref mX, .int zp, .int zf, .ref mL, .ref mB, .ref mD, .ref m1, .ref m2, .int zh, .ref mR, .int zr, .ref x1, .ref x2, .ref x3, .int zc, .ref mH, .int zy, .int za, .int zb, .int zs, .int zq, .int zw, .int ze, .ref mY, .int zn, .ref mE, .int zm, .int zl, .ref mW, .int zk, .ref mO, .int zd, .ref y1, .ref y2, .ref y3, .ref y4, .ref mZ])), (mY, .inl (cI, 2600, .inl eY))]) [0, 1] rfl
        have hDc := hD.sub (ws' := [(oM, .inr (12, [.ref mT, .int zt, .ref mS, .ref mX, .int zp, .int zf, .ref mL, .ref mB, .ref mD, .ref m1, .ref m2, .int zh, .ref mR, .int zr, .ref x1, .ref x2, .ref x3, .int zc, .ref mH, .int zy, .int za, .int zb, .int zs, .int zq, .int zw, .int ze, .ref mY, .int zn, .ref mE, .int zm, .int zl, .ref mW, .int zk, .ref mO, .int zd, .ref y1, .ref y2, .ref y3, .ref y4, .ref mZ])), (mY, .inl (cI, 2600, .inl eY))]) [0, 1] (by decide +kernel) rfl
        have hFc := va_free (wc := [(oM, .inr (12, [.ref mT, .int zt, .ref mS, .ref mX, .int zp, .int zf, .ref mL, .ref mB, .ref mD, .ref m1, .ref m2, .int zh, .ref mR, .int zr, .ref x1, .ref x2, .ref x3, .int zc, .ref mH, .int zy, .int za, .int zb, .int zs, .int zq, .int zw, .int ze, .ref mY, .int zn, .ref mE, .int zm, .int zl, .ref mW, .int zk, .ref mO, .int zd, .ref y1, .ref y2, .ref y3, .ref y4, .ref mZ])), (mY, .inl (cI, 2600, .inl eY))]) hD hS hA [0, 1] rfl
        refine va_callv (va_runV (As := [.int x]) (rest := []) ⟨hx, hb, hml, hown, hts⟩ (m_X12_put l dC dI cI cS s.heap.size oM mT mS mX mL mB mD m1 m2 mR x1 x2 x3 mH mY mE mW mO y1 y2 y3 y4 mZ zt zp zf zh zr zc zy za zb zs zq zw ze zn zm zl zk zd eY x (g_zt) (g_zp) (g_zf) (g_zh) (g_zr) (g_zc) (g_zy) (g_za) (g_zb) (g_zs) (g_zq) (g_zn) (g_zm) (g_zk) (g_eY) (by omega) (by omega)) (cwV 1 hts gX12_writeLetter_X12_put rfl rfl rfl (by decide +kernel) ⟨Nat.le_of_ble_eq_true rfl, Nat.le_of_ble_eq_true rfl⟩) ⟨fun a U g mk q => by obtain ⟨q0, q1, qP, qK, qD⟩ := q; exact ⟨q0, q1, qP, va_K.moved (u := U) (U := U.calling g mk a) (Vm.Alike.refl U.vm) qK, qD⟩, va_recv hK hPc (ci := 12) (q0 := 0) rfl rfl, fun U hU hW => ⟨rfl, by rw [hU], by rw [hU]; exact hPc, va_K.moved hW.alike hK, hDc.weaken (fun _ _ _ _ => trivial)⟩⟩ rfl rfl hl.1 rfl (lv_room (Nat.le_of_ble_eq_true rfl)) dX12_writeLetter_45 ⟨Nat.le_of_ble_eq_true rfl, Nat.le_of_ble_eq_true rfl⟩) hS (fun q _ h => hFc q h) hFc (fun u t H1 locs ht hvm hw hB hz1 hk1 hSn => ?_)
        obtain ⟨zn_127, eY_127, hP1, hD1, hf127_0, hf127_1, hf127_2⟩ := hB
        rw [ht] at hP1
        obtain ⟨hPn, hDn⟩ := va_join (wr := [(mB, .inl (cS, 131072, .inl eB))]) (w1 := [(oM, .inr (12, [.ref mT, .int zt, .ref mS, .ref mX, .int zp, .int zf, .ref mL, .ref mB, .ref mD, .ref m1, .ref m2, .int zh, .ref mR, .int zr, .ref x1, .ref x2, .ref x3, .int zc, .ref mH, .int zy, .int za, .int zb, .int zs, .int zq, .int zw, .int ze, .ref mY, .int zn_127, .ref mE, .int zm, .int zl, .ref mW, .int zk, .ref mO, .int zd, .ref y1, .ref y2, .ref y3, .ref y4, .ref mZ])), (mY, .inl (cI, 2600, .inl eY_127))]) hP hD [0, 1] [2] rfl rfl (by decide +kernel) (by decide +kernel) hk1 hFc hP1 hD1
        clear hP hD hS hPc hDc hFc hk1 hz1 hvm ht hP1 hD1
        generalize H1 = H at hPn hSn ⊢
        have hP : va_P (dC, dI) vwCl [(mB, .inl (cS, 131072, .inl eB)), (oM, .inr (12, [.ref mT, .int zt, .ref mS, .ref mX, .int zp, .int zf, .ref mL, .ref mB, .ref mD, .ref m1, .ref m2, .int zh, .ref mR, .int zr, .ref x1, .ref x2, .ref x3, .int zc, .ref mH, .int zy, .int za, .int zb, .int zs, .int zq, .int zw, .int ze, .ref mY, .int zn_127, .ref mE, .int zm, .int zl, .ref mW, .int zk, .ref mO, .int zd, .ref y1, .ref y2, .ref y3, .ref y4, .ref mZ])), (mY, .inl (cI, 2600, .inl eY_127))] H := hPn
        have hD : va_D A [(mB, .inl (cS, 131072, .inl eB)), (oM, .inr (12, [.ref mT, .int zt, .ref mS, .ref mX, .int zp, .int zf, .ref mL, .ref mB, .ref mD, .ref m1, .ref m2, .int zh, .ref mR, .int zr, .ref x1, .ref x2, .ref x3, .int zc, .ref mH, .int zy, .int za, .int zb, .int zs, .int zq, .int zw, .int ze, .ref mY, .int zn_127, .ref mE, .int zm, .int zl, .ref mW, .int zk, .ref mO, .int zd, .ref y1, .ref y2, .ref y3, .ref y4, .ref mZ])), (mY, .inl (cI, 2600, .inl eY_127))] := hDn
        have hS := hSn
        clear hPn hDn hSn
        refine lv_goto (tgt := 244) hx hb dX12_writeLetter_48 (by decide) ?_
        refine lv_iconst (v := 1) hx hb dX12_writeLetter_244 (by decide) ?_
        have hP9 := hP.sub (ws' := [(oM, .inr (12, [.ref mT, .int zt, .ref mS, .ref mX, .int zp, .int zf, .ref mL, .ref mB, .ref mD, .ref m1, .ref m2, .int zh, .ref mR, .int zr, .ref x1, .ref x2, .ref x3, .int zc, .ref mH, .int zy, .int za, .int zb, .int zs, .int zq, .int zw, .int ze, .ref mY, .int zn_127, .ref mE, .int zm, .int zl, .ref mW, .int zk, .ref mO, .int zd, .ref y1, .ref y2, .ref y3, .ref y4, .ref mZ])), (mY, .inl (cI, 2600, .inl eY_127)), (mB, .inl (cS, 131072, .inl eB))]) [1, 2, 0] rfl
        have hD9 := hD.sub (ws' := [(oM, .inr (12, [.ref mT, .int zt, .ref mS, .ref mX, .int zp, .int zf, .ref mL, .ref mB, .ref mD, .ref m1, .ref m2, .int zh, .ref mR, .int zr, .ref x1, .ref x2, .ref x3, .int zc, .ref mH, .int zy, .int za, .int zb, .int zs, .int zq, .int zw, .int ze, .ref mY, .int zn_127, .ref mE, .int zm, .int zl, .ref mW, .int zk, .ref mO, .int zd, .ref y1, .ref y2, .ref y3, .ref y4, .ref mZ])), (mY, .inl (cI, 2600, .inl eY_127)), (mB, .inl (cS, 131072, .inl eB))]) [1, 2, 0] (by decide +kernel) rfl
        rw [hQQ]
        exact W.zret (v := 1) (ty := .boolean) hx hb hr (rfl) (fun t ht hW => ⟨⟨1, 1, rfl, rfl, ⟨zn_127, eY_127, by rw [ht]; exact hP9, hD9, hf127_0, hf127_1, by decide, by show zn_127.toInt ≤ zn.toInt + 8; omega⟩⟩, hS.F ht⟩) hS.2.2 dX12_writeLetter_245
  · have tc_1 : cd.toInt < 2 := v_nle c_1
    refine lv_iload_n hx hb dX12_writeLetter_5 rfl (lv_at hl 2 rfl) ?_
    refine lv_iload_n hx hb dX12_writeLetter_6 rfl (lv_at hl 1 rfl) ?_
    refine lv_if_ne (tgt := 15) hx hb dX12_writeLetter_7 (by decide) (fun c_128 => ?_) (fun c_128 => ?_)
    · have tc_128 : ¬ cd.toInt = 0 := v_ne c_128
      refine lv_sipush (v := 255) hx hb dX12_writeLetter_15 (by decide) ?_
      refine lv_icmp_le (tgt := 23) hx hb dX12_writeLetter_18 (by decide) (fun c_129 => ?_) (fun c_129 => ?_)
      · have tc_129 : x.toInt ≤ 255 := v_le c_129
        refine lv_aload_n hx hb dX12_writeLetter_23 rfl (lv_at hl 0 rfl) ?_
        refine lv_iload_n hx hb dX12_writeLetter_24 rfl (lv_at hl 2 rfl) ?_
        have hPc := hP.sub (ws' := [(oM, .inr (12, [.ref mT, .int zt, .ref mS, .ref mX, .int zp, .int zf, .ref mL, .ref mB, .ref mD, .ref m1, .ref m2, .int zh, .ref mR, .int zr, .ref x1, .ref x2, .ref x3, .int zc, .ref mH, .int zy, .int za, .int zb, .int zs, .int zq, .int zw, .int ze, .ref mY, .int zn, .ref mE, .int zm, .int zl, .ref mW, .int zk, .ref mO, .int zd, .ref y1, .ref y2, .ref y3, .ref y4, .ref mZ])), (mY, .inl (cI, 2600, .inl eY))]) [0, 1] rfl
        have hDc := hD.sub (ws' := [(oM, .inr (12, [.ref mT, .int zt, .ref mS, .ref mX, .int zp, .int zf, .ref mL, .ref mB, .ref mD, .ref m1, .ref m2, .int zh, .ref mR, .int zr, .ref x1, .ref x2, .ref x3, .int zc, .ref mH, .int zy, .int za, .int zb, .int zs, .int zq, .int zw, .int ze, .ref mY, .int zn, .ref mE, .int zm, .int zl, .ref mW, .int zk, .ref mO, .int zd, .ref y1, .ref y2, .ref y3, .ref y4, .ref mZ])), (mY, .inl (cI, 2600, .inl eY))]) [0, 1] (by decide +kernel) rfl
        have hFc := va_free (wc := [(oM, .inr (12, [.ref mT, .int zt, .ref mS, .ref mX, .int zp, .int zf, .ref mL, .ref mB, .ref mD, .ref m1, .ref m2, .int zh, .ref mR, .int zr, .ref x1, .ref x2, .ref x3, .int zc, .ref mH, .int zy, .int za, .int zb, .int zs, .int zq, .int zw, .int ze, .ref mY, .int zn, .ref mE, .int zm, .int zl, .ref mW, .int zk, .ref mO, .int zd, .ref y1, .ref y2, .ref y3, .ref y4, .ref mZ])), (mY, .inl (cI, 2600, .inl eY))]) hD hS hA [0, 1] rfl
        refine va_callv (va_runV (As := [.int x]) (rest := []) ⟨hx, hb, hml, hown, hts⟩ (m_X12_put l dC dI cI cS s.heap.size oM mT mS mX mL mB mD m1 m2 mR x1 x2 x3 mH mY mE mW mO y1 y2 y3 y4 mZ zt zp zf zh zr zc zy za zb zs zq zw ze zn zm zl zk zd eY x (g_zt) (g_zp) (g_zf) (g_zh) (g_zr) (g_zc) (g_zy) (g_za) (g_zb) (g_zs) (g_zq) (g_zn) (g_zm) (g_zk) (g_eY) (by omega) (by omega)) (cwV 1 hts gX12_writeLetter_X12_put rfl rfl rfl (by decide +kernel) ⟨Nat.le_of_ble_eq_true rfl, Nat.le_of_ble_eq_true rfl⟩) ⟨fun a U g mk q => by obtain ⟨q0, q1, qP, qK, qD⟩ := q; exact ⟨q0, q1, qP, va_K.moved (u := U) (U := U.calling g mk a) (Vm.Alike.refl U.vm) qK, qD⟩, va_recv hK hPc (ci := 12) (q0 := 0) rfl rfl, fun U hU hW => ⟨rfl, by rw [hU], by rw [hU]; exact hPc, va_K.moved hW.alike hK, hDc.weaken (fun _ _ _ _ => trivial)⟩⟩ rfl rfl hl.1 rfl (lv_room (Nat.le_of_ble_eq_true rfl)) dX12_writeLetter_25 ⟨Nat.le_of_ble_eq_true rfl, Nat.le_of_ble_eq_true rfl⟩) hS (fun q _ h => hFc q h) hFc (fun u t H1 locs ht hvm hw hB hz1 hk1 hSn => ?_)
        obtain ⟨zn_130, eY_130, hP1, hD1, hf130_0, hf130_1, hf130_2⟩ := hB
        rw [ht] at hP1
        obtain ⟨hPn, hDn⟩ := va_join (wr := [(mB, .inl (cS, 131072, .inl eB))]) (w1 := [(oM, .inr (12, [.ref mT, .int zt, .ref mS, .ref mX, .int zp, .int zf, .ref mL, .ref mB, .ref mD, .ref m1, .ref m2, .int zh, .ref mR, .int zr, .ref x1, .ref x2, .ref x3, .int zc, .ref mH, .int zy, .int za, .int zb, .int zs, .int zq, .int zw, .int ze, .ref mY, .int zn_130, .ref mE, .int zm, .int zl, .ref mW, .int zk, .ref mO, .int zd, .ref y1, .ref y2, .ref y3, .ref y4, .ref mZ])), (mY, .inl (cI, 2600, .inl eY_130))]) hP hD [0, 1] [2] rfl rfl (by decide +kernel) (by decide +kernel) hk1 hFc hP1 hD1
        clear hP hD hS hPc hDc hFc hk1 hz1 hvm ht hP1 hD1
        generalize H1 = H at hPn hSn ⊢
        have hP : va_P (dC, dI) vwCl [(mB, .inl (cS, 131072, .inl eB)), (oM, .inr (12, [.ref mT, .int zt, .ref mS, .ref mX, .int zp, .int zf, .ref mL, .ref mB, .ref mD, .ref m1, .ref m2, .int zh, .ref mR, .int zr, .ref x1, .ref x2, .ref x3, .int zc, .ref mH, .int zy, .int za, .int zb, .int zs, .int zq, .int zw, .int ze, .ref mY, .int zn_130, .ref mE, .int zm, .int zl, .ref mW, .int zk, .ref mO, .int zd, .ref y1, .ref y2, .ref y3, .ref y4, .ref mZ])), (mY, .inl (cI, 2600, .inl eY_130))] H := hPn
        have hD : va_D A [(mB, .inl (cS, 131072, .inl eB)), (oM, .inr (12, [.ref mT, .int zt, .ref mS, .ref mX, .int zp, .int zf, .ref mL, .ref mB, .ref mD, .ref m1, .ref m2, .int zh, .ref mR, .int zr, .ref x1, .ref x2, .ref x3, .int zc, .ref mH, .int zy, .int za, .int zb, .int zs, .int zq, .int zw, .int ze, .ref mY, .int zn_130, .ref mE, .int zm, .int zl, .ref mW, .int zk, .ref mO, .int zd, .ref y1, .ref y2, .ref y3, .ref y4, .ref mZ])), (mY, .inl (cI, 2600, .inl eY_130))] := hDn
        have hS := hSn
        clear hPn hDn hSn
        refine lv_goto (tgt := 244) hx hb dX12_writeLetter_28 (by decide) ?_
        refine lv_iconst (v := 1) hx hb dX12_writeLetter_244 (by decide) ?_
        have hP9 := hP.sub (ws' := [(oM, .inr (12, [.ref mT, .int zt, .ref mS, .ref mX, .int zp, .int zf, .ref mL, .ref mB, .ref mD, .ref m1, .ref m2, .int zh, .ref mR, .int zr, .ref x1, .ref x2, .ref x3, .int zc, .ref mH, .int zy, .int za, .int zb, .int zs, .int zq, .int zw, .int ze, .ref mY, .int zn_130, .ref mE, .int zm, .int zl, .ref mW, .int zk, .ref mO, .int zd, .ref y1, .ref y2, .ref y3, .ref y4, .ref mZ])), (mY, .inl (cI, 2600, .inl eY_130)), (mB, .inl (cS, 131072, .inl eB))]) [1, 2, 0] rfl
        have hD9 := hD.sub (ws' := [(oM, .inr (12, [.ref mT, .int zt, .ref mS, .ref mX, .int zp, .int zf, .ref mL, .ref mB, .ref mD, .ref m1, .ref m2, .int zh, .ref mR, .int zr, .ref x1, .ref x2, .ref x3, .int zc, .ref mH, .int zy, .int za, .int zb, .int zs, .int zq, .int zw, .int ze, .ref mY, .int zn_130, .ref mE, .int zm, .int zl, .ref mW, .int zk, .ref mO, .int zd, .ref y1, .ref y2, .ref y3, .ref y4, .ref mZ])), (mY, .inl (cI, 2600, .inl eY_130)), (mB, .inl (cS, 131072, .inl eB))]) [1, 2, 0] (by decide +kernel) rfl
        rw [hQQ]
        exact W.zret (v := 1) (ty := .boolean) hx hb hr (rfl) (fun t ht hW => ⟨⟨1, 1, rfl, rfl, ⟨zn_130, eY_130, by rw [ht]; exact hP9, hD9, hf130_0, hf130_1, by decide, by show zn_130.toInt ≤ zn.toInt + 8; omega⟩⟩, hS.F ht⟩) hS.2.2 dX12_writeLetter_245
      · have tc_129 : 255 < x.toInt := v_nle c_129
        refine lv_iconst (v := 0) hx hb dX12_writeLetter_21 (by decide) ?_
        have hP9 := hP.sub (ws' := [(oM, .inr (12, [.ref mT, .int zt, .ref mS, .ref mX, .int zp, .int zf, .ref mL, .ref mB, .ref mD, .ref m1, .ref m2, .int zh, .ref mR, .int zr, .ref x1, .ref x2, .ref x3, .int zc, .ref mH, .int zy, .int za, .int zb, .int zs, .int zq, .int zw, .int ze, .ref mY, .int zn, .ref mE, .int zm, .int zl, .ref mW, .int zk, .ref mO, .int zd, .ref y1, .ref y2, .ref y3, .ref y4, .ref mZ])), (mY, .inl (cI, 2600, .inl eY)), (mB, .inl (cS, 131072, .inl eB))]) [0, 1, 2] rfl
        have hD9 := hD.sub (ws' := [(oM, .inr (12, [.ref mT, .int zt, .ref mS, .ref mX, .int zp, .int zf, .ref mL, .ref mB, .ref mD, .ref m1, .ref m2, .int zh, .ref mR, .int zr, .ref x1, .ref x2, .ref x3, .int zc, .ref mH, .int zy, .int za, .int zb, .int zs, .int zq, .int zw, .int ze, .ref mY, .int zn, .ref mE, .int zm, .int zl, .ref mW, .int zk, .ref mO, .int zd, .ref y1, .ref y2, .ref y3, .ref y4, .ref mZ])), (mY, .inl (cI, 2600, .inl eY)), (mB, .inl (cS, 131072, .inl eB))]) [0, 1, 2] (by decide +kernel) rfl
        rw [hQQ]
        exact W.zret (v := 0) (ty := .boolean) hx hb hr (rfl) (fun t ht hW => ⟨⟨0, 0, rfl, rfl, ⟨zn, eY, by rw [ht]; exact hP9, hD9, g_zn, g_eY, by decide, by show zn.toInt ≤ zn.toInt + 8; omega⟩⟩, hS.F ht⟩) hS.2.2 dX12_writeLetter_22
    · have tc_128 : cd.toInt = 0 := v_eq c_128
      refine lv_bipush (v := 127) hx hb dX12_writeLetter_10 (by decide) ?_
      refine lv_goto (tgt := 18) hx hb dX12_writeLetter_12 (by decide) ?_
      refine lv_icmp_le (tgt := 23) hx hb dX12_writeLetter_18 (by decide) (fun c_131 => ?_) (fun c_131 => ?_)
      · have tc_131 : x.toInt ≤ 127 := v_le c_131
        refine lv_aload_n hx hb dX12_writeLetter_23 rfl (lv_at hl 0 rfl) ?_
        refine lv_iload_n hx hb dX12_writeLetter_24 rfl (lv_at hl 2 rfl) ?_
        have hPc := hP.sub (ws' := [(oM, .inr (12, [.ref mT, .int zt, .ref mS, .ref mX, .int zp, .int zf, .ref mL, .ref mB, .ref mD, .ref m1, .ref m2, .int zh, .ref mR, .int zr, .ref x1, .ref x2, .ref x3, .int zc, .ref mH, .int zy, .int za, .int zb, .int zs, .int zq, .int zw, .int ze, .ref mY, .int zn, .ref mE, .int zm, .int zl, .ref mW, .int zk, .ref mO, .int zd, .ref y1, .ref y2, .ref y3, .ref y4, .ref mZ])), (mY, .inl (cI, 2600, .inl eY))]) [0, 1] rfl
        have hDc := hD.sub (ws' := [(oM, .inr (12, [.ref mT, .int zt, .ref mS, .ref mX, .int zp, .int zf, .ref mL, .ref mB, .ref mD, .ref m1, .ref m2, .int zh, .ref mR, .int zr, .ref x1, .ref x2, .ref x3, .int zc, .ref mH, .int zy, .int za, .int zb, .int zs, .int zq, .int zw, .int ze, .ref mY, .int zn, .ref mE, .int zm, .int zl, .ref mW, .int zk, .ref mO, .int zd, .ref y1, .ref y2, .ref y3, .ref y4, .ref mZ])), (mY, .inl (cI, 2600, .inl eY))]) [0, 1] (by decide +kernel) rfl
        have hFc := va_free (wc := [(oM, .inr (12, [.ref mT, .int zt, .ref mS, .ref mX, .int zp, .int zf, .ref mL, .ref mB, .ref mD, .ref m1, .ref m2, .int zh, .ref mR, .int zr, .ref x1, .ref x2, .ref x3, .int zc, .ref mH, .int zy, .int za, .int zb, .int zs, .int zq, .int zw, .int ze, .ref mY, .int zn, .ref mE, .int zm, .int zl, .ref mW, .int zk, .ref mO, .int zd, .ref y1, .ref y2, .ref y3, .ref y4, .ref mZ])), (mY, .inl (cI, 2600, .inl eY))]) hD hS hA [0, 1] rfl
        refine va_callv (va_runV (As := [.int x]) (rest := []) ⟨hx, hb, hml, hown, hts⟩ (m_X12_put l dC dI cI cS s.heap.size oM mT mS mX mL mB mD m1 m2 mR x1 x2 x3 mH mY mE mW mO y1 y2 y3 y4 mZ zt zp zf zh zr zc zy za zb zs zq zw ze zn zm zl zk zd eY x (g_zt) (g_zp) (g_zf) (g_zh) (g_zr) (g_zc) (g_zy) (g_za) (g_zb) (g_zs) (g_zq) (g_zn) (g_zm) (g_zk) (g_eY) (by omega) (by omega)) (cwV 1 hts gX12_writeLetter_X12_put rfl rfl rfl (by decide +kernel) ⟨Nat.le_of_ble_eq_true rfl, Nat.le_of_ble_eq_true rfl⟩) ⟨fun a U g mk q => by obtain ⟨q0, q1, qP, qK, qD⟩ := q; exact ⟨q0, q1, qP, va_K.moved (u := U) (U := U.calling g mk a) (Vm.Alike.refl U.vm) qK, qD⟩, va_recv hK hPc (ci := 12) (q0 := 0) rfl rfl, fun U hU hW => ⟨rfl, by rw [hU], by rw [hU]; exact hPc, va_K.moved hW.alike hK, hDc.weaken (fun _ _ _ _ => trivial)⟩⟩ rfl rfl hl.1 rfl (lv_room (Nat.le_of_ble_eq_true rfl)) dX12_writeLetter_25 ⟨Nat.le_of_ble_eq_true rfl, Nat.le_of_ble_eq_true rfl⟩) hS (fun q _ h => hFc q h) hFc (fun u t H1 locs ht hvm hw hB hz1 hk1 hSn => ?_)
        obtain ⟨zn_132, eY_132, hP1, hD1, hf132_0, hf132_1, hf132_2⟩ := hB
        rw [ht] at hP1
        obtain ⟨hPn, hDn⟩ := va_join (wr := [(mB, .inl (cS, 131072, .inl eB))]) (w1 := [(oM, .inr (12, [.ref mT, .int zt, .ref mS, .ref mX, .int zp, .int zf, .ref mL, .ref mB, .ref mD, .ref m1, .ref m2, .int zh, .ref mR, .int zr, .ref x1, .ref x2, .ref x3, .int zc, .ref mH, .int zy, .int za, .int zb, .int zs, .int zq, .int zw, .int ze, .ref mY, .int zn_132, .ref mE, .int zm, .int zl, .ref mW, .int zk, .ref mO, .int zd, .ref y1, .ref y2, .ref y3, .ref y4, .ref mZ])), (mY, .inl (cI, 2600, .inl eY_132))]) hP hD [0, 1] [2] rfl rfl (by decide +kernel) (by decide +kernel) hk1 hFc hP1 hD1
        clear hP hD hS hPc hDc hFc hk1 hz1 hvm ht hP1 hD1
        generalize H1 = H at hPn hSn ⊢
        have hP : va_P (dC, dI) vwCl [(mB, .inl (cS, 131072, .inl eB)), (oM, .inr (12, [.ref mT, .int zt, .ref mS, .ref mX, .int zp, .int zf, .ref mL, .ref mB, .ref mD, .ref m1, .ref m2, .int zh, .ref mR, .int zr, .ref x1, .ref x2, .ref x3, .int zc, .ref mH, .int zy, .int za, .int zb, .int zs, .int zq, .int zw, .int ze, .ref mY, .int zn_132, .ref mE, .int zm, .int zl, .ref mW, .int zk, .ref mO, .int zd, .ref y1, .ref y2, .ref y3, .ref y4, .ref mZ])), (mY, .inl (cI, 2600, .inl eY_132))] H := hPn
        have hD : va_D A [(mB, .inl (cS, 131072, .inl eB)), (oM, .inr (12, [.ref mT, .int zt, .ref mS, .ref mX, .int zp, .int zf, .ref mL, .ref mB, .ref mD, .ref m1, .ref m2, .int zh, .ref mR, .int zr, .ref x1, .ref x2, .ref x3, .int zc, .ref mH, .int zy, .int za, .int zb, .int zs, .int zq, .int zw, .int ze, .ref mY, .int zn_132, .ref mE, .int zm, .int zl, .ref mW, .int zk, .ref mO, .int zd, .ref y1, .ref y2, .ref y3, .ref y4, .ref mZ])), (mY, .inl (cI, 2600, .inl eY_132))] := hDn
        have hS := hSn
        clear hPn hDn hSn
        refine lv_goto (tgt := 244) hx hb dX12_writeLetter_28 (by decide) ?_
        refine lv_iconst (v := 1) hx hb dX12_writeLetter_244 (by decide) ?_
        have hP9 := hP.sub (ws' := [(oM, .inr (12, [.ref mT, .int zt, .ref mS, .ref mX, .int zp, .int zf, .ref mL, .ref mB, .ref mD, .ref m1, .ref m2, .int zh, .ref mR, .int zr, .ref x1, .ref x2, .ref x3, .int zc, .ref mH, .int zy, .int za, .int zb, .int zs, .int zq, .int zw, .int ze, .ref mY, .int zn_132, .ref mE, .int zm, .int zl, .ref mW, .int zk, .ref mO, .int zd, .ref y1, .ref y2, .ref y3, .ref y4, .ref mZ])), (mY, .inl (cI, 2600, .inl eY_132)), (mB, .inl (cS, 131072, .inl eB))]) [1, 2, 0] rfl
        have hD9 := hD.sub (ws' := [(oM, .inr (12, [.ref mT, .int zt, .ref mS, .ref mX, .int zp, .int zf, .ref mL, .ref mB, .ref mD, .ref m1, .ref m2, .int zh, .ref mR, .int zr, .ref x1, .ref x2, .ref x3, .int zc, .ref mH, .int zy, .int za, .int zb, .int zs, .int zq, .int zw, .int ze, .ref mY, .int zn_132, .ref mE, .int zm, .int zl, .ref mW, .int zk, .ref mO, .int zd, .ref y1, .ref y2, .ref y3, .ref y4, .ref mZ])), (mY, .inl (cI, 2600, .inl eY_132)), (mB, .inl (cS, 131072, .inl eB))]) [1, 2, 0] (by decide +kernel) rfl
        rw [hQQ]
        exact W.zret (v := 1) (ty := .boolean) hx hb hr (rfl) (fun t ht hW => ⟨⟨1, 1, rfl, rfl, ⟨zn_132, eY_132, by rw [ht]; exact hP9, hD9, hf132_0, hf132_1, by decide, by show zn_132.toInt ≤ zn.toInt + 8; omega⟩⟩, hS.F ht⟩) hS.2.2 dX12_writeLetter_245
      · have tc_131 : 127 < x.toInt := v_nle c_131
        refine lv_iconst (v := 0) hx hb dX12_writeLetter_21 (by decide) ?_
        have hP9 := hP.sub (ws' := [(oM, .inr (12, [.ref mT, .int zt, .ref mS, .ref mX, .int zp, .int zf, .ref mL, .ref mB, .ref mD, .ref m1, .ref m2, .int zh, .ref mR, .int zr, .ref x1, .ref x2, .ref x3, .int zc, .ref mH, .int zy, .int za, .int zb, .int zs, .int zq, .int zw, .int ze, .ref mY, .int zn, .ref mE, .int zm, .int zl, .ref mW, .int zk, .ref mO, .int zd, .ref y1, .ref y2, .ref y3, .ref y4, .ref mZ])), (mY, .inl (cI, 2600, .inl eY)), (mB, .inl (cS, 131072, .inl eB))]) [0, 1, 2] rfl
        have hD9 := hD.sub (ws' := [(oM, .inr (12, [.ref mT, .int zt, .ref mS, .ref mX, .int zp, .int zf, .ref mL, .ref mB, .ref mD, .ref m1, .ref m2, .int zh, .ref mR, .int zr, .ref x1, .ref x2, .ref x3, .int zc, .ref mH, .int zy, .int za, .int zb, .int zs, .int zq, .int zw, .int ze, .ref mY, .int zn, .ref mE, .int zm, .int zl, .ref mW, .int zk, .ref mO, .int zd, .ref y1, .ref y2, .ref y3, .ref y4, .ref mZ])), (mY, .inl (cI, 2600, .inl eY)), (mB, .inl (cS, 131072, .inl eB))]) [0, 1, 2] (by decide +kernel) rfl
        rw [hQQ]
        exact W.zret (v := 0) (ty := .boolean) hx hb hr (rfl) (fun t ht hW => ⟨⟨0, 0, rfl, rfl, ⟨zn, eY, by rw [ht]; exact hP9, hD9, g_zn, g_eY, by decide, by show zn.toInt ≤ zn.toInt + 8; omega⟩⟩, hS.F ht⟩) hS.2.2 dX12_writeLetter_22

set_option maxHeartbeats 40000000 in
set_option maxRecDepth 100000 in
theorem m_X12_write (l : Launch) (dC : Nat → ClassId) (dI : Nat → Nat → Nat) (cI cS : ClassId) (sz : Nat) (oM : Nat) (rw : Nat) (mT : Nat) (mS : Nat) (mX : Nat) (mL : Nat) (mB : Nat) (mD : Nat) (m1 : Nat) (m2 : Nat) (mR : Nat) (x1 : Nat) (x2 : Nat) (x3 : Nat) (mH : Nat) (mY : Nat) (mE : Nat) (mW : Nat) (mO : Nat) (y1 : Nat) (y2 : Nat) (y3 : Nat) (y4 : Nat) (mZ : Nat) (cw : Nat) (zt : Int32) (zp : Int32) (zf : Int32) (zh : Int32) (zr : Int32) (zc : Int32) (zy : Int32) (za : Int32) (zb : Int32) (zs : Int32) (zq : Int32) (zw : Int32) (ze : Int32) (zn : Int32) (zm : Int32) (zl : Int32) (zk : Int32) (zd : Int32) (eY : Nat → Int32) (eB : Nat → Int32) (fr : Nat → Int32) (cd : Int32) (n : Int32) (g_zt : 0 ≤ zt.toInt ∧ zt.toInt ≤ 900) (g_zp : 0 ≤ zp.toInt ∧ zp.toInt ≤ 20) (g_zf : 0 ≤ zf.toInt ∧ zf.toInt ≤ 19) (g_zh : 0 ≤ zh.toInt ∧ zh.toInt ≤ 6) (g_zr : 0 ≤ zr.toInt ∧ zr.toInt ≤ 258) (g_zc : 0 ≤ zc.toInt ∧ zc.toInt ≤ 300) (g_zy : 0 ≤ zy.toInt ∧ zy.toInt ≤ 65536) (g_za : 0 ≤ za.toInt ∧ za.toInt ≤ 5) (g_zb : 0 ≤ zb.toInt ∧ zb.toInt ≤ 5) (g_zs : 0 ≤ zs.toInt ∧ zs.toInt ≤ 2000000) (g_zq : -1 ≤ zq.toInt ∧ zq.toInt ≤ 2000000) (g_zn : 0 ≤ zn.toInt ∧ zn.toInt ≤ 2600) (g_zm : 0 ≤ zm.toInt ∧ zm.toInt ≤ 2600) (g_zk : 0 ≤ zk.toInt ∧ zk.toInt ≤ 300) (g_eY : rg 0 255 eY) (g_eB : rg (-1) 255 eB) (g_fr : rg 0 65535 fr) (g_cd : 0 ≤ cd.toInt ∧ cd.toInt ≤ 5) (g_n : 0 ≤ n.toInt ∧ n.toInt ≤ 300) (hcw : n.toInt ≤ (cw : Int)) (hcw2 : cw ≤ 6300) : Met l yX12_write wsX12_write ({ frames := 2, cells := 0, slots := 0, locals := 44 } : Room) (va_Pc [.ref oM, .int cd, .ref rw, .int n] (fun U => U.heap.size = sz ∧ va_P (dC, dI) vwCl [(oM, .inr (12, [.ref mT, .int zt, .ref mS, .ref mX, .int zp, .int zf, .ref mL, .ref mB, .ref mD, .ref m1, .ref m2, .int zh, .ref mR, .int zr, .ref x1, .ref x2, .ref x3, .int zc, .ref mH, .int zy, .int za, .int zb, .int zs, .int zq, .int zw, .int ze, .ref mY, .int zn, .ref mE, .int zm, .int zl, .ref mW, .int zk, .ref mO, .int zd, .ref y1, .ref y2, .ref y3, .ref y4, .ref mZ])), (mY, .inl (cI, 2600, .inl eY)), (mB, .inl (cS, 131072, .inl eB)), (rw, .inl (cI, cw, .inl fr))] U.heap ∧ va_K (dC, dI) vwCl [(cI, .int), (cS, .short)] U ∧ va_D (fun _ => True) [(oM, .inr (12, [.ref mT, .int zt, .ref mS, .ref mX, .int zp, .int zf, .ref mL, .ref mB, .ref mD, .ref m1, .ref m2, .int zh, .ref mR, .int zr, .ref x1, .ref x2, .ref x3, .int zc, .ref mH, .int zy, .int za, .int zb, .int zs, .int zq, .int zw, .int ze, .ref mY, .int zn, .ref mE, .int zm, .int zl, .ref mW, .int zk, .ref mO, .int zd, .ref y1, .ref y2, .ref y3, .ref y4, .ref mZ])), (mY, .inl (cI, 2600, .inl eY)), (mB, .inl (cS, 131072, .inl eB)), (rw, .inl (cI, cw, .inl fr))])) (va_Qi (fun (r : Int32) (u : Int32) => r = u) (fun (r : Int32) t => ∃ (zn' : Int32) (eY' : Nat → Int32) (zl' : Int32), va_P (dC, dI) vwCl [(oM, .inr (12, [.ref mT, .int zt, .ref mS, .ref mX, .int zp, .int zf, .ref mL, .ref mB, .ref mD, .ref m1, .ref m2, .int zh, .ref mR, .int zr, .ref x1, .ref x2, .ref x3, .int zc, .ref mH, .int zy, .int za, .int zb, .int zs, .int zq, .int zw, .int ze, .ref mY, .int zn', .ref mE, .int zm, .int zl', .ref mW, .int zk, .ref mO, .int zd, .ref y1, .ref y2, .ref y3, .ref y4, .ref mZ])), (mY, .inl (cI, 2600, .inl eY')), (mB, .inl (cS, 131072, .inl eB)), (rw, .inl (cI, cw, .inl fr))] t.heap ∧ va_D (va_A [(oM, .inr (12, [.ref mT, .int zt, .ref mS, .ref mX, .int zp, .int zf, .ref mL, .ref mB, .ref mD, .ref m1, .ref m2, .int zh, .ref mR, .int zr, .ref x1, .ref x2, .ref x3, .int zc, .ref mH, .int zy, .int za, .int zb, .int zs, .int zq, .int zw, .int ze, .ref mY, .int zn, .ref mE, .int zm, .int zl, .ref mW, .int zk, .ref mO, .int zd, .ref y1, .ref y2, .ref y3, .ref y4, .ref mZ])), (mY, .inl (cI, 2600, .inl eY)), (mB, .inl (cS, 131072, .inl eB)), (rw, .inl (cI, cw, .inl fr))] sz) [(oM, .inr (12, [.ref mT, .int zt, .ref mS, .ref mX, .int zp, .int zf, .ref mL, .ref mB, .ref mD, .ref m1, .ref m2, .int zh, .ref mR, .int zr, .ref x1, .ref x2, .ref x3, .int zc, .ref mH, .int zy, .int za, .int zb, .int zs, .int zq, .int zw, .int ze, .ref mY, .int zn', .ref mE, .int zm, .int zl', .ref mW, .int zk, .ref mO, .int zd, .ref y1, .ref y2, .ref y3, .ref y4, .ref mZ])), (mY, .inl (cI, 2600, .inl eY')), (mB, .inl (cS, 131072, .inl eB)), (rw, .inl (cI, cw, .inl fr))] ∧ (0 ≤ zn'.toInt ∧ zn'.toInt ≤ 2600) ∧ (rg 0 255 eY') ∧ (0 ≤ r.toInt ∧ r.toInt ≤ 1)) (va_A [(oM, .inr (12, [.ref mT, .int zt, .ref mS, .ref mX, .int zp, .int zf, .ref mL, .ref mB, .ref mD, .ref m1, .ref m2, .int zh, .ref mR, .int zr, .ref x1, .ref x2, .ref x3, .int zc, .ref mH, .int zy, .int za, .int zb, .int zs, .int zq, .int zw, .int ze, .ref mY, .int zn, .ref mE, .int zm, .int zl, .ref mW, .int zk, .ref mO, .int zd, .ref y1, .ref y2, .ref y3, .ref y4, .ref mZ])), (mY, .inl (cI, 2600, .inl eY)), (mB, .inl (cS, 131072, .inl eB)), (rw, .inl (cI, cw, .inl fr))] sz)) 0 0 (va_A [(oM, .inr (12, [.ref mT, .int zt, .ref mS, .ref mX, .int zp, .int zf, .ref mL, .ref mB, .ref mD, .ref m1, .ref m2, .int zh, .ref mR, .int zr, .ref x1, .ref x2, .ref x3, .int zc, .ref mH, .int zy, .int za, .int zb, .int zs, .int zq, .int zw, .int ze, .ref mY, .int zn, .ref mE, .int zm, .int zl, .ref mW, .int zk, .ref mO, .int zd, .ref y1, .ref y2, .ref y3, .ref y4, .ref mZ])), (mY, .inl (cI, 2600, .inl eY)), (mB, .inl (cS, 131072, .inl eB)), (rw, .inl (cI, cw, .inl fr))] sz) := by
  refine Met.ofW (cc := cX12_write) (maxL := 5) (ret := (some .boolean)) (by decide) rfl ?_
  intro p e s m args below meth c s₁ B hml hv
  obtain ⟨rfl, hsz, hP, hK, hD0⟩ := hv
  have hx := B.exec
  have hb := B.bytes
  have hr := B.returns
  have hts := atoms_spec (ws := wsX12_write) B.pre
  have hown : s.vm.findClass RX12 = some m.cls := findClass_of_methodNamed B.named
  have hlocks := B.notSynchronized
  have in_X12 : ∀ w ∈ wsX120, w ∈ wsX12_write := fun _ h => List.mem_cons_of_mem _ (List.mem_append_right _ (h))
  subst hsz
  have hD := hD0.self (sz := s.heap.size)
  generalize hAe : va_A [(oM, .inr (12, [.ref mT, .int zt, .ref mS, .ref mX, .int zp, .int zf, .ref mL, .ref mB, .ref mD, .ref m1, .ref m2, .int zh, .ref mR, .int zr, .ref x1, .ref x2, .ref x3, .int zc, .ref mH, .int zy, .int za, .int zb, .int zs, .int zq, .int zw, .int ze, .ref mY, .int zn, .ref mE, .int zm, .int zl, .ref mW, .int zk, .ref mO, .int zd, .ref y1, .ref y2, .ref y3, .ref y4, .ref mZ])), (mY, .inl (cI, 2600, .inl eY)), (mB, .inl (cS, 131072, .inl eB)), (rw, .inl (cI, cw, .inl fr))] s.heap.size = A at hD ⊢
  have hA : ∀ q : Nat, s.heap.size ≤ q → A q := fun q h => by rw [← hAe]; exact Or.inr h
  have hS : va_S A s.heap s.heap [] := va_S.rf
  have hP : va_P (dC, dI) vwCl [(oM, .inr (12, [.ref mT, .int zt, .ref mS, .ref mX, .int zp, .int zf, .ref mL, .ref mB, .ref mD, .ref m1, .ref m2, .int zh, .ref mR, .int zr, .ref x1, .ref x2, .ref x3, .int zc, .ref mH, .int zy, .int za, .int zb, .int zs, .int zq, .int zw, .int ze, .ref mY, .int zn, .ref mE, .int zm, .int zl, .ref mW, .int zk, .ref mO, .int zd, .ref y1, .ref y2, .ref y3, .ref y4, .ref mZ])), (mY, .inl (cI, 2600, .inl eY)), (mB, .inl (cS, 131072, .inl eB)), (rw, .inl (cI, cw, .inl fr))] s.heap := hP
  have hl := lv_entry ([.ref oM, .int cd, .ref rw, .int n]) (n := 5) (Nat.le_of_ble_eq_true rfl)
  rw [lg_entry_eq]
  generalize (lg_sl ([.ref oM, .int cd, .ref rw, .int n]) ++ List.replicate (5 - (lg_sl ([.ref oM, .int cd, .ref rw, .int n])).length) Slot.unset).toArray = ls at hl ⊢
  have hl : lv_has ls 5 [(0, .ref oM), (1, .int cd), (2, .ref rw), (3, .int n)] := hl
  obtain ⟨QQ, hQQ⟩ : ∃ QQ : Array Value → State → Outcome → State → Prop, QQ = va_Qi (fun (r : Int32) (u : Int32) => r = u) (fun (r : Int32) t => ∃ (zn' : Int32) (eY' : Nat → Int32) (zl' : Int32), va_P (dC, dI) vwCl [(oM, .inr (12, [.ref mT, .int zt, .ref mS, .ref mX, .int zp, .int zf, .ref mL, .ref mB, .ref mD, .ref m1, .ref m2, .int zh, .ref mR, .int zr, .ref x1, .ref x2, .ref x3, .int zc, .ref mH, .int zy, .int za, .int zb, .int zs, .int zq, .int zw, .int ze, .ref mY, .int zn', .ref mE, .int zm, .int zl', .ref mW, .int zk, .ref mO, .int zd, .ref y1, .ref y2, .ref y3, .ref y4, .ref mZ])), (mY, .inl (cI, 2600, .inl eY')), (mB, .inl (cS, 131072, .inl eB)), (rw, .inl (cI, cw, .inl fr))] t.heap ∧ va_D A [(oM, .inr (12, [.ref mT, .int zt, .ref mS, .ref mX, .int zp, .int zf, .ref mL, .ref mB, .ref mD, .ref m1, .ref m2, .int zh, .ref mR, .int zr, .ref x1, .ref x2, .ref x3, .int zc, .ref mH, .int zy, .int za, .int zb, .int zs, .int zq, .int zw, .int ze, .ref mY, .int zn', .ref mE, .int zm, .int zl', .ref mW, .int zk, .ref mO, .int zd, .ref y1, .ref y2, .ref y3, .ref y4, .ref mZ])), (mY, .inl (cI, 2600, .inl eY')), (mB, .inl (cS, 131072, .inl eB)), (rw, .inl (cI, cw, .inl fr))] ∧ (0 ≤ zn'.toInt ∧ zn'.toInt ≤ 2600) ∧ (rg 0 255 eY') ∧ (0 ≤ r.toInt ∧ r.toInt ≤ 1)) A := ⟨_, rfl⟩
  rw [← hQQ]
  refine lv_aload_n hx hb dX12_write_0 rfl (lv_at hl 0 rfl) ?_
  refine lv_iconst (v := 0) hx hb dX12_write_1 (by decide) ?_
  refine va_put (D := (dC, dI)) (ci := 12) (v := .int 0) (ty := .int) (C := RX12) (T := TX12) (N := 40) hx hb hts in_X12 tyX12 tyX12_ok nmX12 hown hK hP hD hS 0 rfl rfl 27 (by decide) (hts (.fieldLink RX12 91 "TextMenderModel" "byteMany" "I") (List.mem_of_getElem? (i := 1) rfl)) (fun _ h9 => h9) rfl (by decide +kernel) rfl rfl (Nat.le_of_ble_eq_true rfl) dX12_write_2 (fun H locs hPn hDn hSn => ?_)
  clear hP hD hS
  have hP : va_P (dC, dI) vwCl [(oM, .inr (12, [.ref mT, .int zt, .ref mS, .ref mX, .int zp, .int zf, .ref mL, .ref mB, .ref mD, .ref m1, .ref m2, .int zh, .ref mR, .int zr, .ref x1, .ref x2, .ref x3, .int zc, .ref mH, .int zy, .int za, .int zb, .int zs, .int zq, .int zw, .int ze, .ref mY, .int 0, .ref mE, .int zm, .int zl, .ref mW, .int zk, .ref mO, .int zd, .ref y1, .ref y2, .ref y3, .ref y4, .ref mZ])), (mY, .inl (cI, 2600, .inl eY)), (mB, .inl (cS, 131072, .inl eB)), (rw, .inl (cI, cw, .inl fr))] H := hPn
  have hD : va_D A [(oM, .inr (12, [.ref mT, .int zt, .ref mS, .ref mX, .int zp, .int zf, .ref mL, .ref mB, .ref mD, .ref m1, .ref m2, .int zh, .ref mR, .int zr, .ref x1, .ref x2, .ref x3, .int zc, .ref mH, .int zy, .int za, .int zb, .int zs, .int zq, .int zw, .int ze, .ref mY, .int 0, .ref mE, .int zm, .int zl, .ref mW, .int zk, .ref mO, .int zd, .ref y1, .ref y2, .ref y3, .ref y4, .ref mZ])), (mY, .inl (cI, 2600, .inl eY)), (mB, .inl (cS, 131072, .inl eB)), (rw, .inl (cI, cw, .inl fr))] := hDn
  have hS := hSn
  clear hPn hDn hSn
  refine lv_iconst (v := 0) hx hb dX12_write_5 (by decide) ?_
  refine lv_istore (lv' := [(4, .int 0), (0, .ref oM), (1, .int cd), (2, .ref rw), (3, .int n)]) hx hb dX12_write_6 hl (by decide) rfl (fun ls hl => ?_)
  have LOOP_8 : ∀ (k_8 : Nat) (k : Int32) (zna : Int32) (zla : Int32) (eYa : Nat → Int32) (H : Heap) (locs : List Loc) (ls : Array Slot), MSd (300 - k.toInt : Int) k_8 → (0 ≤ k.toInt ∧ k.toInt ≤ 300) → (0 ≤ zna.toInt ∧ zna.toInt ≤ 8 * k.toInt) → (rg 0 255 eYa) → va_P (dC, dI) vwCl [(oM, .inr (12, [.ref mT, .int zt, .ref mS, .ref mX, .int zp, .int zf, .ref mL, .ref mB, .ref mD, .ref m1, .ref m2, .int zh, .ref mR, .int zr, .ref x1, .ref x2, .ref x3, .int zc, .ref mH, .int zy, .int za, .int zb, .int zs, .int zq, .int zw, .int ze, .ref mY, .int zna, .ref mE, .int zm, .int zla, .ref mW, .int zk, .ref mO, .int zd, .ref y1, .ref y2, .ref y3, .ref y4, .ref mZ])), (mY, .inl (cI, 2600, .inl eYa)), (mB, .inl (cS, 131072, .inl eB)), (rw, .inl (cI, cw, .inl fr))] H → va_D A [(oM, .inr (12, [.ref mT, .int zt, .ref mS, .ref mX, .int zp, .int zf, .ref mL, .ref mB, .ref mD, .ref m1, .ref m2, .int zh, .ref mR, .int zr, .ref x1, .ref x2, .ref x3, .int zc, .ref mH, .int zy, .int za, .int zb, .int zs, .int zq, .int zw, .int ze, .ref mY, .int zna, .ref mE, .int zm, .int zla, .ref mW, .int zk, .ref mO, .int zd, .ref y1, .ref y2, .ref y3, .ref y4, .ref mZ])), (mY, .inl (cI, 2600, .inl eYa)), (mB, .inl (cS, 131072, .inl eB)), (rw, .inl (cI, cw, .inl fr))] → va_S A s.heap H locs → lv_has ls 5 [(4, .int k), (0, .ref oM), (1, .int cd), (2, .ref rw), (3, .int n)] → W p l e (headSpec wsX12_write ({ frames := 2, cells := 0, slots := 0, locals := 44 } : Room)).room s m ([.ref oM, .int cd, .ref rw, .int n] : List Value).toArray below meth c H locs 0 0 (MQ below QQ ([.ref oM, .int cd, .ref rw, .int n] : List Value).toArray s 0 0 A) (F0 m 8 ls []) := by
    clear hP hD hS hl
    intro k_8
    induction k_8 with
    | zero =>
      intro k zna zla eYa H locs ls hm_8 g_k g_zna g_eYa hP hD hS hl
      exact ms_0 hm_8
    | succ k_8 ih_8 =>
      intro k zna zla eYa H locs ls hm_8 g_k g_zna g_eYa hP hD hS hl
      refine lv_iload hx hb dX12_write_8 (lv_at hl 0 rfl) ?_
      refine lv_iload_n hx hb dX12_write_10 rfl (lv_at hl 4 rfl) ?_
      refine lv_icmp_ge (tgt := 40) hx hb dX12_write_11 (by decide) (fun c_1 => ?_) (fun c_1 => ?_)
      · have tc_1 : n.toInt ≤ k.toInt := v_le c_1
        refine lv_iconst (v := 1) hx hb dX12_write_40 (by decide) ?_
        have hP9 := hP.sub (ws' := [(oM, .inr (12, [.ref mT, .int zt, .ref mS, .ref mX, .int zp, .int zf, .ref mL, .ref mB, .ref mD, .ref m1, .ref m2, .int zh, .ref mR, .int zr, .ref x1, .ref x2, .ref x3, .int zc, .ref mH, .int zy, .int za, .int zb, .int zs, .int zq, .int zw, .int ze, .ref mY, .int zna, .ref mE, .int zm, .int zla, .ref mW, .int zk, .ref mO, .int zd, .ref y1, .ref y2, .ref y3, .ref y4, .ref mZ])), (mY, .inl (cI, 2600, .inl eYa)), (mB, .inl (cS, 131072, .inl eB)), (rw, .inl (cI, cw, .inl fr))]) [0, 1, 2, 3] rfl
        have hD9 := hD.sub (ws' := [(oM, .inr (12, [.ref mT, .int zt, .ref mS, .ref mX, .int zp, .int zf, .ref mL, .ref mB, .ref mD, .ref m1, .ref m2, .int zh, .ref mR, .int zr, .ref x1, .ref x2, .ref x3, .int zc, .ref mH, .int zy, .int za, .int zb, .int zs, .int zq, .int zw, .int ze, .ref mY, .int zna, .ref mE, .int zm, .int zla, .ref mW, .int zk, .ref mO, .int zd, .ref y1, .ref y2, .ref y3, .ref y4, .ref mZ])), (mY, .inl (cI, 2600, .inl eYa)), (mB, .inl (cS, 131072, .inl eB)), (rw, .inl (cI, cw, .inl fr))]) [0, 1, 2, 3] (by decide +kernel) rfl
        rw [hQQ]
        exact W.zret (v := 1) (ty := .boolean) hx hb hr (rfl) (fun t ht hW => ⟨⟨1, 1, rfl, rfl, ⟨zna, eYa, zla, by rw [ht]; exact hP9, hD9, by omega, g_eYa, by decide⟩⟩, hS.F ht⟩) hS.2.2 dX12_write_41
      · have tc_1 : k.toInt < n.toInt := v_nle c_1
        refine lv_aload_n hx hb dX12_write_14 rfl (lv_at hl 1 rfl) ?_
        refine lv_iload_n hx hb dX12_write_15 rfl (lv_at hl 2 rfl) ?_
        refine lv_aload_n hx hb dX12_write_16 rfl (lv_at hl 3 rfl) ?_
        refine lv_iload hx hb dX12_write_17 (lv_at hl 0 rfl) ?_
        refine va_iald hx hb hK hP 3 0 rfl rfl (v_in (by omega)) dX12_write_19 ?_
        refine lv_topi (fun x_2 ex_2 => ?_)
        have tx_2 : 0 ≤ x_2.toInt ∧ x_2.toInt ≤ 65535 := rg_at g_fr ex_2
        have hPc := hP.sub (ws' := [(oM, .inr (12, [.ref mT, .int zt, .ref mS, .ref mX, .int zp, .int zf, .ref mL, .ref mB, .ref mD, .ref m1, .ref m2, .int zh, .ref mR, .int zr, .ref x1, .ref x2, .ref x3, .int zc, .ref mH, .int zy, .int za, .int zb, .int zs, .int zq, .int zw, .int ze, .ref mY, .int zna, .ref mE, .int zm, .int zla, .ref mW, .int zk, .ref mO, .int zd, .ref y1, .ref y2, .ref y3, .ref y4, .ref mZ])), (mY, .inl (cI, 2600, .inl eYa)), (mB, .inl (cS, 131072, .inl eB))]) [0, 1, 2] rfl
        have hDc := hD.sub (ws' := [(oM, .inr (12, [.ref mT, .int zt, .ref mS, .ref mX, .int zp, .int zf, .ref mL, .ref mB, .ref mD, .ref m1, .ref m2, .int zh, .ref mR, .int zr, .ref x1, .ref x2, .ref x3, .int zc, .ref mH, .int zy, .int za, .int zb, .int zs, .int zq, .int zw, .int ze, .ref mY, .int zna, .ref mE, .int zm, .int zla, .ref mW, .int zk, .ref mO, .int zd, .ref y1, .ref y2, .ref y3, .ref y4, .ref mZ])), (mY, .inl (cI, 2600, .inl eYa)), (mB, .inl (cS, 131072, .inl eB))]) [0, 1, 2] (by decide +kernel) rfl
        have hFc := va_free (wc := [(oM, .inr (12, [.ref mT, .int zt, .ref mS, .ref mX, .int zp, .int zf, .ref mL, .ref mB, .ref mD, .ref m1, .ref m2, .int zh, .ref mR, .int zr, .ref x1, .ref x2, .ref x3, .int zc, .ref mH, .int zy, .int za, .int zb, .int zs, .int zq, .int zw, .int ze, .ref mY, .int zna, .ref mE, .int zm, .int zla, .ref mW, .int zk, .ref mO, .int zd, .ref y1, .ref y2, .ref y3, .ref y4, .ref mZ])), (mY, .inl (cI, 2600, .inl eYa)), (mB, .inl (cS, 131072, .inl eB))]) hD hS hA [0, 1, 2] rfl
        refine va_calli (va_runV (As := [.int cd, .int x_2]) (rest := []) ⟨hx, hb, hml, hown, hts⟩ (m_X12_writeLetter l dC dI cI cS H.size oM mT mS mX mL mB mD m1 m2 mR x1 x2 x3 mH mY mE mW mO y1 y2 y3 y4 mZ zt zp zf zh zr zc zy za zb zs zq zw ze zna zm zla zk zd eYa eB cd x_2 (g_zt) (g_zp) (g_zf) (g_zh) (g_zr) (g_zc) (g_zy) (g_za) (g_zb) (g_zs) (g_zq) (by omega) (g_zm) (g_zk) (g_eYa) (g_eB) (g_cd) (by omega) (by omega)) (cwV 2 hts gX12_write_X12_writeLetter rfl rfl rfl (by decide +kernel) ⟨Nat.le_of_ble_eq_true rfl, Nat.le_of_ble_eq_true rfl⟩) ⟨fun a U g mk q => by obtain ⟨q0, q1, qP, qK, qD⟩ := q; exact ⟨q0, q1, qP, va_K.moved (u := U) (U := U.calling g mk a) (Vm.Alike.refl U.vm) qK, qD⟩, va_recv hK hPc (ci := 12) (q0 := 0) rfl rfl, fun U hU hW => ⟨rfl, by rw [hU], by rw [hU]; exact hPc, va_K.moved hW.alike hK, hDc.weaken (fun _ _ _ _ => trivial)⟩⟩ rfl rfl hl.1 rfl (lv_room (Nat.le_of_ble_eq_true rfl)) dX12_write_20 ⟨Nat.le_of_ble_eq_true rfl, Nat.le_of_ble_eq_true rfl⟩) hS (fun q _ h => hFc q h) hFc (fun r_3 u t H1 locs ht hvm hw hB hz1 hk1 hSn => ?_)
        subst hw
        obtain ⟨zn_3, eY_3, hP1, hD1, hf3_0, hf3_1, hf3_2, hf3_3⟩ := hB
        rw [ht] at hP1
        obtain ⟨hPn, hDn⟩ := va_join (wr := [(rw, .inl (cI, cw, .inl fr))]) (w1 := [(oM, .inr (12, [.ref mT, .int zt, .ref mS, .ref mX, .int zp, .int zf, .ref mL, .ref mB, .ref mD, .ref m1, .ref m2, .int zh, .ref mR, .int zr, .ref x1, .ref x2, .ref x3, .int zc, .ref mH, .int zy, .int za, .int zb, .int zs, .int zq, .int zw, .int ze, .ref mY, .int zn_3, .ref mE, .int zm, .int zla, .ref mW, .int zk, .ref mO, .int zd, .ref y1, .ref y2, .ref y3, .ref y4, .ref mZ])), (mY, .inl (cI, 2600, .inl eY_3)), (mB, .inl (cS, 131072, .inl eB))]) hP hD [0, 1, 2] [3] rfl rfl (by decide +kernel) (by decide +kernel) hk1 hFc hP1 hD1
        clear hP hD hS hPc hDc hFc hk1 hz1 hvm ht hP1 hD1
        generalize H1 = H at hPn hSn ⊢
        have hP : va_P (dC, dI) vwCl [(rw, .inl (cI, cw, .inl fr)), (oM, .inr (12, [.ref mT, .int zt, .ref mS, .ref mX, .int zp, .int zf, .ref mL, .ref mB, .ref mD, .ref m1, .ref m2, .int zh, .ref mR, .int zr, .ref x1, .ref x2, .ref x3, .int zc, .ref mH, .int zy, .int za, .int zb, .int zs, .int zq, .int zw, .int ze, .ref mY, .int zn_3, .ref mE, .int zm, .int zla, .ref mW, .int zk, .ref mO, .int zd, .ref y1, .ref y2, .ref y3, .ref y4, .ref mZ])), (mY, .inl (cI, 2600, .inl eY_3)), (mB, .inl (cS, 131072, .inl eB))] H := hPn
        have hD : va_D A [(rw, .inl (cI, cw, .inl fr)), (oM, .inr (12, [.ref mT, .int zt, .ref mS, .ref mX, .int zp, .int zf, .ref mL, .ref mB, .ref mD, .ref m1, .ref m2, .int zh, .ref mR, .int zr, .ref x1, .ref x2, .ref x3, .int zc, .ref mH, .int zy, .int za, .int zb, .int zs, .int zq, .int zw, .int ze, .ref mY, .int zn_3, .ref mE, .int zm, .int zla, .ref mW, .int zk, .ref mO, .int zd, .ref y1, .ref y2, .ref y3, .ref y4, .ref mZ])), (mY, .inl (cI, 2600, .inl eY_3)), (mB, .inl (cS, 131072, .inl eB))] := hDn
        have hS := hSn
        clear hPn hDn hSn
        refine lv_if_ne (tgt := 34) hx hb dX12_write_23 (by decide) (fun c_4 => ?_) (fun c_4 => ?_)
        · have tc_4 : ¬ r_3.toInt = 0 := v_ne c_4
          obtain ⟨x_5, ex_5⟩ : ∃ y : Int32, y = k + 1 := ⟨_, rfl⟩
          have tx_5 : x_5.toInt = k.toInt + 1 := v_add ex_5 (by show -2147483648 ≤ k.toInt + 1; omega) (by show k.toInt + 1 < 2147483648; omega)
          refine lv_iinc (v := x_5) (lv' := [(4, .int x_5), (0, .ref oM), (1, .int cd), (2, .ref rw), (3, .int n)]) hx hb dX12_write_34 hl (k := 0) rfl (by rw [ex_5]; rfl) (by decide) rfl (fun ls hl => ?_)
          refine lv_goto (tgt := 8) hx hb dX12_write_37 (by decide) ?_
          exact ih_8 x_5 zn_3 zla eY_3 _ _ _ (ms_lt hm_8 (by show ((300 - x_5.toInt : Int)) < 300 - k.toInt; omega) (by show (0 : Int) < 300 - k.toInt; omega)) (by show 0 ≤ x_5.toInt ∧ x_5.toInt ≤ 300; omega) (by show 0 ≤ zn_3.toInt ∧ zn_3.toInt ≤ 8 * x_5.toInt; omega) (hf3_1) (hP.sub [1, 2, 3, 0] rfl) (hD.sub [1, 2, 3, 0] (by decide +kernel) rfl) hS (lv_sub hl [0, 1, 2, 3, 4] rfl)
        · have tc_4 : r_3.toInt = 0 := v_eq c_4
          refine lv_aload_n hx hb dX12_write_26 rfl (lv_at hl 1 rfl) ?_
          refine lv_iload hx hb dX12_write_27 (lv_at hl 0 rfl) ?_
          refine va_put (D := (dC, dI)) (ci := 12) (v := .int k) (ty := .int) (C := RX12) (T := TX12) (N := 40) hx hb hts in_X12 tyX12 tyX12_ok nmX12 hown hK hP hD hS 1 rfl rfl 30 (by decide) (hts (.fieldLink RX12 102 "TextMenderModel" "faultAt" "I") (List.mem_of_getElem? (i := 2) rfl)) (fun _ h9 => h9) rfl (by decide +kernel) rfl rfl (Nat.le_of_ble_eq_true rfl) dX12_write_29 (fun H locs hPn hDn hSn => ?_)
          clear hP hD hS
          have hP : va_P (dC, dI) vwCl [(rw, .inl (cI, cw, .inl fr)), (oM, .inr (12, [.ref mT, .int zt, .ref mS, .ref mX, .int zp, .int zf, .ref mL, .ref mB, .ref mD, .ref m1, .ref m2, .int zh, .ref mR, .int zr, .ref x1, .ref x2, .ref x3, .int zc, .ref mH, .int zy, .int za, .int zb, .int zs, .int zq, .int zw, .int ze, .ref mY, .int zn_3, .ref mE, .int zm, .int k, .ref mW, .int zk, .ref mO, .int zd, .ref y1, .ref y2, .ref y3, .ref y4, .ref mZ])), (mY, .inl (cI, 2600, .inl eY_3)), (mB, .inl (cS, 131072, .inl eB))] H := hPn
          have hD : va_D A [(rw, .inl (cI, cw, .inl fr)), (oM, .inr (12, [.ref mT, .int zt, .ref mS, .ref mX, .int zp, .int zf, .ref mL, .ref mB, .ref mD, .ref m1, .ref m2, .int zh, .ref mR, .int zr, .ref x1, .ref x2, .ref x3, .int zc, .ref mH, .int zy, .int za, .int zb, .int zs, .int zq, .int zw, .int ze, .ref mY, .int zn_3, .ref mE, .int zm, .int k, .ref mW, .int zk, .ref mO, .int zd, .ref y1, .ref y2, .ref y3, .ref y4, .ref mZ])), (mY, .inl (cI, 2600, .inl eY_3)), (mB, .inl (cS, 131072, .inl eB))] := hDn
          have hS := hSn
          clear hPn hDn hSn
          refine lv_iconst (v := 0) hx hb dX12_write_32 (by decide) ?_
          have hP9 := hP.sub (ws' := [(oM, .inr (12, [.ref mT, .int zt, .ref mS, .ref mX, .int zp, .int zf, .ref mL, .ref mB, .ref mD, .ref m1, .ref m2, .int zh, .ref mR, .int zr, .ref x1, .ref x2, .ref x3, .int zc, .ref mH, .int zy, .int za, .int zb, .int zs, .int zq, .int zw, .int ze, .ref mY, .int zn_3, .ref mE, .int zm, .int k, .ref mW, .int zk, .ref mO, .int zd, .ref y1, .ref y2, .ref y3, .ref y4, .ref mZ])), (mY, .inl (cI, 2600, .inl eY_3)), (mB, .inl (cS, 131072, .inl eB)), (rw, .inl (cI, cw, .inl fr))]) [1, 2, 3, 0] rfl
          have hD9 := hD.sub (ws' := [(oM, .inr (12, [.ref mT, .int zt, .ref mS, .ref mX, .int zp, .int zf, .ref mL, .ref mB, .ref mD, .ref m1, .ref m2, .int zh, .ref mR, .int zr, .ref x1, .ref x2, .ref x3, .int zc, .ref mH, .int zy, .int za, .int zb, .int zs, .int zq, .int zw, .int ze, .ref mY, .int zn_3, .ref mE, .int zm, .int k, .ref mW, .int zk, .ref mO, .int zd, .ref y1, .ref y2, .ref y3, .ref y4, .ref mZ])), (mY, .inl (cI, 2600, .inl eY_3)), (mB, .inl (cS, 131072, .inl eB)), (rw, .inl (cI, cw, .inl fr))]) [1, 2, 3, 0] (by decide +kernel) rfl
          rw [hQQ]
          exact W.zret (v := 0) (ty := .boolean) hx hb hr (rfl) (fun t ht hW => ⟨⟨0, 0, rfl, rfl, ⟨zn_3, eY_3, k, by rw [ht]; exact hP9, hD9, hf3_0, hf3_1, by decide⟩⟩, hS.F ht⟩) hS.2.2 dX12_write_33
  exact LOOP_8 _ 0 0 zl eY _ _ _ (ms_s _) (by decide) (by show 0 ≤ (0 : Int) ∧ (0 : Int) ≤ 8 * 0; omega) (g_eY) hP hD hS (lv_sub hl [0, 1, 2, 3, 4] rfl)

set_option maxHeartbeats 40000000 in
set_option maxRecDepth 100000 in
theorem m_X12_byteAt (l : Launch) (dC : Nat → ClassId) (dI : Nat → Nat → Nat) (cI cS : ClassId) (sz : Nat) (oM : Nat) (mT : Nat) (mS : Nat) (mX : Nat) (mL : Nat) (mB : Nat) (mD : Nat) (m1 : Nat) (m2 : Nat) (mR : Nat) (x1 : Nat) (x2 : Nat) (x3 : Nat) (mH : Nat) (mY : Nat) (mE : Nat) (mW : Nat) (mO : Nat) (y1 : Nat) (y2 : Nat) (y3 : Nat) (y4 : Nat) (mZ : Nat) (zt : Int32) (zp : Int32) (zf : Int32) (zh : Int32) (zr : Int32) (zc : Int32) (zy : Int32) (za : Int32) (zb : Int32) (zs : Int32) (zq : Int32) (zw : Int32) (ze : Int32) (zn : Int32) (zm : Int32) (zl : Int32) (zk : Int32) (zd : Int32) (eY : Nat → Int32) (q : Int32) (g_zt : 0 ≤ zt.toInt ∧ zt.toInt ≤ 900) (g_zp : 0 ≤ zp.toInt ∧ zp.toInt ≤ 20) (g_zf : 0 ≤ zf.toInt ∧ zf.toInt ≤ 19) (g_zh : 0 ≤ zh.toInt ∧ zh.toInt ≤ 6) (g_zr : 0 ≤ zr.toInt ∧ zr.toInt ≤ 258) (g_zc : 0 ≤ zc.toInt ∧ zc.toInt ≤ 300) (g_zy : 0 ≤ zy.toInt ∧ zy.toInt ≤ 65536) (g_za : 0 ≤ za.toInt ∧ za.toInt ≤ 5) (g_zb : 0 ≤ zb.toInt ∧ zb.toInt ≤ 5) (g_zs : 0 ≤ zs.toInt ∧ zs.toInt ≤ 2000000) (g_zq : -1 ≤ zq.toInt ∧ zq.toInt ≤ 2000000) (g_zn : 0 ≤ zn.toInt ∧ zn.toInt ≤ 2600) (g_zm : 0 ≤ zm.toInt ∧ zm.toInt ≤ 2600) (g_zk : 0 ≤ zk.toInt ∧ zk.toInt ≤ 300) (g_eY : rg 0 255 eY) (g_q : 0 ≤ q.toInt ∧ q.toInt ≤ 2700) : Met l yX12_byteAt wsX12_byteAt ({ frames := 0, cells := 0, slots := 0, locals := 0 } : Room) (va_Pc [.ref oM, .int q] (fun U => U.heap.size = sz ∧ va_P (dC, dI) vwCl [(oM, .inr (12, [.ref mT, .int zt, .ref mS, .ref mX, .int zp, .int zf, .ref mL, .ref mB, .ref mD, .ref m1, .ref m2, .int zh, .ref mR, .int zr, .ref x1, .ref x2, .ref x3, .int zc, .ref mH, .int zy, .int za, .int zb, .int zs, .int zq, .int zw, .int ze, .ref mY, .int zn, .ref mE, .int zm, .int zl, .ref mW, .int zk, .ref mO, .int zd, .ref y1, .ref y2, .ref y3, .ref y4, .ref mZ])), (mY, .inl (cI, 2600, .inl eY))] U.heap ∧ va_K (dC, dI) vwCl [(cI, .int), (cS, .short)] U ∧ va_D (fun _ => True) [(oM, .inr (12, [.ref mT, .int zt, .ref mS, .ref mX, .int zp, .int zf, .ref mL, .ref mB, .ref mD, .ref m1, .ref m2, .int zh, .ref mR, .int zr, .ref x1, .ref x2, .ref x3, .int zc, .ref mH, .int zy, .int za, .int zb, .int zs, .int zq, .int zw, .int ze, .ref mY, .int zn, .ref mE, .int zm, .int zl, .ref mW, .int zk, .ref mO, .int zd, .ref y1, .ref y2, .ref y3, .ref y4, .ref mZ])), (mY, .inl (cI, 2600, .inl eY))])) (va_Qi (fun (r : Int32) (u : Int32) => r = u) (fun (r : Int32) t => va_P (dC, dI) vwCl [(oM, .inr (12, [.ref mT, .int zt, .ref mS, .ref mX, .int zp, .int zf, .ref mL, .ref mB, .ref mD, .ref m1, .ref m2, .int zh, .ref mR, .int zr, .ref x1, .ref x2, .ref x3, .int zc, .ref mH, .int zy, .int za, .int zb, .int zs, .int zq, .int zw, .int ze, .ref mY, .int zn, .ref mE, .int zm, .int zl, .ref mW, .int zk, .ref mO, .int zd, .ref y1, .ref y2, .ref y3, .ref y4, .ref mZ])), (mY, .inl (cI, 2600, .inl eY))] t.heap ∧ va_D (va_A [(oM, .inr (12, [.ref mT, .int zt, .ref mS, .ref mX, .int zp, .int zf, .ref mL, .ref mB, .ref mD, .ref m1, .ref m2, .int zh, .ref mR, .int zr, .ref x1, .ref x2, .ref x3, .int zc, .ref mH, .int zy, .int za, .int zb, .int zs, .int zq, .int zw, .int ze, .ref mY, .int zn, .ref mE, .int zm, .int zl, .ref mW, .int zk, .ref mO, .int zd, .ref y1, .ref y2, .ref y3, .ref y4, .ref mZ])), (mY, .inl (cI, 2600, .inl eY))] sz) [(oM, .inr (12, [.ref mT, .int zt, .ref mS, .ref mX, .int zp, .int zf, .ref mL, .ref mB, .ref mD, .ref m1, .ref m2, .int zh, .ref mR, .int zr, .ref x1, .ref x2, .ref x3, .int zc, .ref mH, .int zy, .int za, .int zb, .int zs, .int zq, .int zw, .int ze, .ref mY, .int zn, .ref mE, .int zm, .int zl, .ref mW, .int zk, .ref mO, .int zd, .ref y1, .ref y2, .ref y3, .ref y4, .ref mZ])), (mY, .inl (cI, 2600, .inl eY))] ∧ (-1 ≤ r.toInt ∧ r.toInt ≤ 255) ∧ ((q.toInt < zn.toInt ∧ 0 ≤ r.toInt) ∨ (zn.toInt ≤ q.toInt ∧ r.toInt = -1))) (va_A [(oM, .inr (12, [.ref mT, .int zt, .ref mS, .ref mX, .int zp, .int zf, .ref mL, .ref mB, .ref mD, .ref m1, .ref m2, .int zh, .ref mR, .int zr, .ref x1, .ref x2, .ref x3, .int zc, .ref mH, .int zy, .int za, .int zb, .int zs, .int zq, .int zw, .int ze, .ref mY, .int zn, .ref mE, .int zm, .int zl, .ref mW, .int zk, .ref mO, .int zd, .ref y1, .ref y2, .ref y3, .ref y4, .ref mZ])), (mY, .inl (cI, 2600, .inl eY))] sz)) 0 0 (va_A [(oM, .inr (12, [.ref mT, .int zt, .ref mS, .ref mX, .int zp, .int zf, .ref mL, .ref mB, .ref mD, .ref m1, .ref m2, .int zh, .ref mR, .int zr, .ref x1, .ref x2, .ref x3, .int zc, .ref mH, .int zy, .int za, .int zb, .int zs, .int zq, .int zw, .int ze, .ref mY, .int zn, .ref mE, .int zm, .int zl, .ref mW, .int zk, .ref mO, .int zd, .ref y1, .ref y2, .ref y3, .ref y4, .ref mZ])), (mY, .inl (cI, 2600, .inl eY))] sz) := by
  refine Met.ofW (cc := cX12_byteAt) (maxL := 2) (ret := (some .int)) (by decide) rfl ?_
  intro p e s m args below meth c s₁ B hml hv
  obtain ⟨rfl, hsz, hP, hK, hD0⟩ := hv
  have hx := B.exec
  have hb := B.bytes
  have hr := B.returns
  have hts := atoms_spec (ws := wsX12_byteAt) B.pre
  have hown : s.vm.findClass RX12 = some m.cls := findClass_of_methodNamed B.named
  have hlocks := B.notSynchronized
  have in_X12 : ∀ w ∈ wsX120, w ∈ wsX12_byteAt := fun _ h => List.mem_cons_of_mem _ (List.mem_append_right _ (h))
  subst hsz
  have hD := hD0.self (sz := s.heap.size)
  generalize hAe : va_A [(oM, .inr (12, [.ref mT, .int zt, .ref mS, .ref mX, .int zp, .int zf, .ref mL, .ref mB, .ref mD, .ref m1, .ref m2, .int zh, .ref mR, .int zr, .ref x1, .ref x2, .ref x3, .int zc, .ref mH, .int zy, .int za, .int zb, .int zs, .int zq, .int zw, .int ze, .ref mY, .int zn, .ref mE, .int zm, .int zl, .ref mW, .int zk, .ref mO, .int zd, .ref y1, .ref y2, .ref y3, .ref y4, .ref mZ])), (mY, .inl (cI, 2600, .inl eY))] s.heap.size = A at hD ⊢
  have hA : ∀ q : Nat, s.heap.size ≤ q → A q := fun q h => by rw [← hAe]; exact Or.inr h
  have hS : va_S A s.heap s.heap [] := va_S.rf
  have hP : va_P (dC, dI) vwCl [(oM, .inr (12, [.ref mT, .int zt, .ref mS, .ref mX, .int zp, .int zf, .ref mL, .ref mB, .ref mD, .ref m1, .ref m2, .int zh, .ref mR, .int zr, .ref x1, .ref x2, .ref x3, .int zc, .ref mH, .int zy, .int za, .int zb, .int zs, .int zq, .int zw, .int ze, .ref mY, .int zn, .ref mE, .int zm, .int zl, .ref mW, .int zk, .ref mO, .int zd, .ref y1, .ref y2, .ref y3, .ref y4, .ref mZ])), (mY, .inl (cI, 2600, .inl eY))] s.heap := hP
  have hl := lv_entry ([.ref oM, .int q]) (n := 2) (Nat.le_of_ble_eq_true rfl)
  rw [lg_entry_eq]
  generalize (lg_sl ([.ref oM, .int q]) ++ List.replicate (2 - (lg_sl ([.ref oM, .int q])).length) Slot.unset).toArray = ls at hl ⊢
  have hl : lv_has ls 2 [(0, .ref oM), (1, .int q)] := hl
  obtain ⟨QQ, hQQ⟩ : ∃ QQ : Array Value → State → Outcome → State → Prop, QQ = va_Qi (fun (r : Int32) (u : Int32) => r = u) (fun (r : Int32) t => va_P (dC, dI) vwCl [(oM, .inr (12, [.ref mT, .int zt, .ref mS, .ref mX, .int zp, .int zf, .ref mL, .ref mB, .ref mD, .ref m1, .ref m2, .int zh, .ref mR, .int zr, .ref x1, .ref x2, .ref x3, .int zc, .ref mH, .int zy, .int za, .int zb, .int zs, .int zq, .int zw, .int ze, .ref mY, .int zn, .ref mE, .int zm, .int zl, .ref mW, .int zk, .ref mO, .int zd, .ref y1, .ref y2, .ref y3, .ref y4, .ref mZ])), (mY, .inl (cI, 2600, .inl eY))] t.heap ∧ va_D A [(oM, .inr (12, [.ref mT, .int zt, .ref mS, .ref mX, .int zp, .int zf, .ref mL, .ref mB, .ref mD, .ref m1, .ref m2, .int zh, .ref mR, .int zr, .ref x1, .ref x2, .ref x3, .int zc, .ref mH, .int zy, .int za, .int zb, .int zs, .int zq, .int zw, .int ze, .ref mY, .int zn, .ref mE, .int zm, .int zl, .ref mW, .int zk, .ref mO, .int zd, .ref y1, .ref y2, .ref y3, .ref y4, .ref mZ])), (mY, .inl (cI, 2600, .inl eY))] ∧ (-1 ≤ r.toInt ∧ r.toInt ≤ 255) ∧ ((q.toInt < zn.toInt ∧ 0 ≤ r.toInt) ∨ (zn.toInt ≤ q.toInt ∧ r.toInt = -1))) A := ⟨_, rfl⟩
  rw [← hQQ]
  refine lv_iload_n hx hb dX12_byteAt_0 rfl (lv_at hl 1 rfl) ?_
  refine lv_aload_n hx hb dX12_byteAt_1 rfl (lv_at hl 0 rfl) ?_
  refine va_get (D := (dC, dI)) (ci := 12) (v := .int zn) (C := RX12) (T := TX12) (N := 40) hx hb hts in_X12 hown hK hP 0 rfl rfl 27 (by decide) (hts (.fieldLink RX12 91 "TextMenderModel" "byteMany" "I") (List.mem_of_getElem? (i := 1) rfl)) (fun _ h9 => h9) rfl dX12_byteAt_2 ?_
  refine lv_icmp_ge (tgt := 17) hx hb dX12_byteAt_5 (by decide) (fun c_1 => ?_) (fun c_1 => ?_)
  · have tc_1 : zn.toInt ≤ q.toInt := v_le c_1
    refine lv_iconst (v := (-1)) hx hb dX12_byteAt_17 (by decide) ?_
    have hP9 := hP.sub (ws' := [(oM, .inr (12, [.ref mT, .int zt, .ref mS, .ref mX, .int zp, .int zf, .ref mL, .ref mB, .ref mD, .ref m1, .ref m2, .int zh, .ref mR, .int zr, .ref x1, .ref x2, .ref x3, .int zc, .ref mH, .int zy, .int za, .int zb, .int zs, .int zq, .int zw, .int ze, .ref mY, .int zn, .ref mE, .int zm, .int zl, .ref mW, .int zk, .ref mO, .int zd, .ref y1, .ref y2, .ref y3, .ref y4, .ref mZ])), (mY, .inl (cI, 2600, .inl eY))]) [0, 1] rfl
    have hD9 := hD.sub (ws' := [(oM, .inr (12, [.ref mT, .int zt, .ref mS, .ref mX, .int zp, .int zf, .ref mL, .ref mB, .ref mD, .ref m1, .ref m2, .int zh, .ref mR, .int zr, .ref x1, .ref x2, .ref x3, .int zc, .ref mH, .int zy, .int za, .int zb, .int zs, .int zq, .int zw, .int ze, .ref mY, .int zn, .ref mE, .int zm, .int zl, .ref mW, .int zk, .ref mO, .int zd, .ref y1, .ref y2, .ref y3, .ref y4, .ref mZ])), (mY, .inl (cI, 2600, .inl eY))]) [0, 1] (by decide +kernel) rfl
    rw [hQQ]
    exact W.iret (v := (-1)) hx hb hr (fun t ht hW => ⟨⟨(-1), (-1), rfl, rfl, ⟨by rw [ht]; exact hP9, hD9, by decide, by show (q.toInt < zn.toInt ∧ 0 ≤ (-1)) ∨ (zn.toInt ≤ q.toInt ∧ (-1) = -1); omega⟩⟩, hS.F ht⟩) hS.2.2 dX12_byteAt_18
  · have tc_1 : q.toInt < zn.toInt := v_nle c_1
    refine lv_aload_n hx hb dX12_byteAt_8 rfl (lv_at hl 0 rfl) ?_
    refine va_get (D := (dC, dI)) (ci := 12) (v := .ref mY) (C := RX12) (T := TX12) (N := 40) hx hb hts in_X12 hown hK hP 0 rfl rfl 26 (by decide) (hts (.fieldLink RX12 58 "TextMenderModel" "bytes" "[I") (List.mem_of_getElem? (i := 2) rfl)) (fun _ h9 => h9) rfl dX12_byteAt_9 ?_
    refine lv_iload_n hx hb dX12_byteAt_12 rfl (lv_at hl 1 rfl) ?_
    refine va_iald hx hb hK hP 1 0 rfl rfl (v_in (by omega)) dX12_byteAt_13 ?_
    refine lv_topi (fun x_2 ex_2 => ?_)
    have tx_2 : 0 ≤ x_2.toInt ∧ x_2.toInt ≤ 255 := rg_at g_eY ex_2
    refine lv_goto (tgt := 18) hx hb dX12_byteAt_14 (by decide) ?_
    have hP9 := hP.sub (ws' := [(oM, .inr (12, [.ref mT, .int zt, .ref mS, .ref mX, .int zp, .int zf, .ref mL, .ref mB, .ref mD, .ref m1, .ref m2, .int zh, .ref mR, .int zr, .ref x1, .ref x2, .ref x3, .int zc, .ref mH, .int zy, .int za, .int zb, .int zs, .int zq, .int zw, .int ze, .ref mY, .int zn, .ref mE, .int zm, .int zl, .ref mW, .int zk, .ref mO, .int zd, .ref y1, .ref y2, .ref y3, .ref y4, .ref mZ])), (mY, .inl (cI, 2600, .inl eY))]) [0, 1] rfl
    have hD9 := hD.sub (ws' := [(oM, .inr (12, [.ref mT, .int zt, .ref mS, .ref mX, .int zp, .int zf, .ref mL, .ref mB, .ref mD, .ref m1, .ref m2, .int zh, .ref mR, .int zr, .ref x1, .ref x2, .ref x3, .int zc, .ref mH, .int zy, .int za, .int zb, .int zs, .int zq, .int zw, .int ze, .ref mY, .int zn, .ref mE, .int zm, .int zl, .ref mW, .int zk, .ref mO, .int zd, .ref y1, .ref y2, .ref y3, .ref y4, .ref mZ])), (mY, .inl (cI, 2600, .inl eY))]) [0, 1] (by decide +kernel) rfl
    rw [hQQ]
    exact W.iret (v := x_2) hx hb hr (fun t ht hW => ⟨⟨x_2, x_2, rfl, rfl, ⟨by rw [ht]; exact hP9, hD9, by omega, by show (q.toInt < zn.toInt ∧ 0 ≤ x_2.toInt) ∨ (zn.toInt ≤ q.toInt ∧ x_2.toInt = -1); omega⟩⟩, hS.F ht⟩) hS.2.2 dX12_byteAt_18

set_option maxHeartbeats 40000000 in
set_option maxRecDepth 100000 in
theorem m_X12_readAt (l : Launch) (dC : Nat → ClassId) (dI : Nat → Nat → Nat) (cI cS : ClassId) (sz : Nat) (oM : Nat) (mT : Nat) (mS : Nat) (mX : Nat) (mL : Nat) (mB : Nat) (mD : Nat) (m1 : Nat) (m2 : Nat) (mR : Nat) (x1 : Nat) (x2 : Nat) (x3 : Nat) (mH : Nat) (mY : Nat) (mE : Nat) (mW : Nat) (mO : Nat) (y1 : Nat) (y2 : Nat) (y3 : Nat) (y4 : Nat) (mZ : Nat) (zt : Int32) (zp : Int32) (zf : Int32) (zh : Int32) (zr : Int32) (zc : Int32) (zy : Int32) (za : Int32) (zb : Int32) (zs : Int32) (zq : Int32) (zw : Int32) (ze : Int32) (zn : Int32) (zm : Int32) (zl : Int32) (zk : Int32) (zd : Int32) (eY : Nat → Int32) (eL : Nat → Int32) (cd : Int32) (q : Int32) (g_zt : 0 ≤ zt.toInt ∧ zt.toInt ≤ 900) (g_zp : 0 ≤ zp.toInt ∧ zp.toInt ≤ 20) (g_zf : 0 ≤ zf.toInt ∧ zf.toInt ≤ 19) (g_zh : 0 ≤ zh.toInt ∧ zh.toInt ≤ 6) (g_zr : 0 ≤ zr.toInt ∧ zr.toInt ≤ 258) (g_zc : 0 ≤ zc.toInt ∧ zc.toInt ≤ 300) (g_zy : 0 ≤ zy.toInt ∧ zy.toInt ≤ 65536) (g_za : 0 ≤ za.toInt ∧ za.toInt ≤ 5) (g_zb : 0 ≤ zb.toInt ∧ zb.toInt ≤ 5) (g_zs : 0 ≤ zs.toInt ∧ zs.toInt ≤ 2000000) (g_zq : -1 ≤ zq.toInt ∧ zq.toInt ≤ 2000000) (g_zn : 0 ≤ zn.toInt ∧ zn.toInt ≤ 2600) (g_zm : 0 ≤ zm.toInt ∧ zm.toInt ≤ 2600) (g_zk : 0 ≤ zk.toInt ∧ zk.toInt ≤ 300) (g_eY : rg 0 255 eY) (g_eL : rg (-1) 65535 eL) (g_cd : 0 ≤ cd.toInt ∧ cd.toInt ≤ 5) (g_q : 0 ≤ q.toInt ∧ q.toInt ≤ 2599) : Met l yX12_readAt wsX12_readAt ({ frames := 1, cells := 0, slots := 0, locals := 21 } : Room) (va_Pc [.ref oM, .int cd, .int q] (fun U => U.heap.size = sz ∧ va_P (dC, dI) vwCl [(oM, .inr (12, [.ref mT, .int zt, .ref mS, .ref mX, .int zp, .int zf, .ref mL, .ref mB, .ref mD, .ref m1, .ref m2, .int zh, .ref mR, .int zr, .ref x1, .ref x2, .ref x3, .int zc, .ref mH, .int zy, .int za, .int zb, .int zs, .int zq, .int zw, .int ze, .ref mY, .int zn, .ref mE, .int zm, .int zl, .ref mW, .int zk, .ref mO, .int zd, .ref y1, .ref y2, .ref y3, .ref y4, .ref mZ])), (mY, .inl (cI, 2600, .inl eY)), (mL, .inl (cI, 512, .inl eL))] U.heap ∧ va_K (dC, dI) vwCl [(cI, .int), (cS, .short)] U ∧ va_D (fun _ => True) [(oM, .inr (12, [.ref mT, .int zt, .ref mS, .ref mX, .int zp, .int zf, .ref mL, .ref mB, .ref mD, .ref m1, .ref m2, .int zh, .ref mR, .int zr, .ref x1, .ref x2, .ref x3, .int zc, .ref mH, .int zy, .int za, .int zb, .int zs, .int zq, .int zw, .int ze, .ref mY, .int zn, .ref mE, .int zm, .int zl, .ref mW, .int zk, .ref mO, .int zd, .ref y1, .ref y2, .ref y3, .ref y4, .ref mZ])), (mY, .inl (cI, 2600, .inl eY)), (mL, .inl (cI, 512, .inl eL))])) (va_Qi (fun (r : Int32) (u : Int32) => r = u) (fun (r : Int32) t => ∃ (zd' : Int32), va_P (dC, dI) vwCl [(oM, .inr (12, [.ref mT, .int zt, .ref mS, .ref mX, .int zp, .int zf, .ref mL, .ref mB, .ref mD, .ref m1, .ref m2, .int zh, .ref mR, .int zr, .ref x1, .ref x2, .ref x3, .int zc, .ref mH, .int zy, .int za, .int zb, .int zs, .int zq, .int zw, .int ze, .ref mY, .int zn, .ref mE, .int zm, .int zl, .ref mW, .int zk, .ref mO, .int zd', .ref y1, .ref y2, .ref y3, .ref y4, .ref mZ])), (mY, .inl (cI, 2600, .inl eY)), (mL, .inl (cI, 512, .inl eL))] t.heap ∧ va_D (va_A [(oM, .inr (12, [.ref mT, .int zt, .ref mS, .ref mX, .int zp, .int zf, .ref mL, .ref mB, .ref mD, .ref m1, .ref m2, .int zh, .ref mR, .int zr, .ref x1, .ref x2, .ref x3, .int zc, .ref mH, .int zy, .int za, .int zb, .int zs, .int zq, .int zw, .int ze, .ref mY, .int zn, .ref mE, .int zm, .int zl, .ref mW, .int zk, .ref mO, .int zd, .ref y1, .ref y2, .ref y3, .ref y4, .ref mZ])), (mY, .inl (cI, 2600, .inl eY)), (mL, .inl (cI, 512, .inl eL))] sz) [(oM, .inr (12, [.ref mT, .int zt, .ref mS, .ref mX, .int zp, .int zf, .ref mL, .ref mB, .ref mD, .ref m1, .ref m2, .int zh, .ref mR, .int zr, .ref x1, .ref x2, .ref x3, .int zc, .ref mH, .int zy, .int za, .int zb, .int zs, .int zq, .int zw, .int ze, .ref mY, .int zn, .ref mE, .int zm, .int zl, .ref mW, .int zk, .ref mO, .int zd', .ref y1, .ref y2, .ref y3, .ref y4, .ref mZ])), (mY, .inl (cI, 2600, .inl eY)), (mL, .inl (cI, 512, .inl eL))] ∧ (0 ≤ r.toInt ∧ r.toInt ≤ 9) ∧ (r.toInt = 0 ∨ (0 ≤ zd'.toInt ∧ zd'.toInt ≤ 65535))) (va_A [(oM, .inr (12, [.ref mT, .int zt, .ref mS, .ref mX, .int zp, .int zf, .ref mL, .ref mB, .ref mD, .ref m1, .ref m2, .int zh, .ref mR, .int zr, .ref x1, .ref x2, .ref x3, .int zc, .ref mH, .int zy, .int za, .int zb, .int zs, .int zq, .int zw, .int ze, .ref mY, .int zn, .ref mE, .int zm, .int zl, .ref mW, .int zk, .ref mO, .int zd, .ref y1, .ref y2, .ref y3, .ref y4, .ref mZ])), (mY, .inl (cI, 2600, .inl eY)), (mL, .inl (cI, 512, .inl eL))] sz)) 0 0 (va_A [(oM, .inr (12, [.ref mT, .int zt, .ref mS, .ref mX, .int zp, .int zf, .ref mL, .ref mB, .ref mD, .ref m1, .ref m2, .int zh, .ref mR, .int zr, .ref x1, .ref x2, .ref x3, .int zc, .ref mH, .int zy, .int za, .int zb, .int zs, .int zq, .int zw, .int ze, .ref mY, .int zn, .ref mE, .int zm, .int zl, .ref mW, .int zk, .ref mO, .int zd, .ref y1, .ref y2, .ref y3, .ref y4, .ref mZ])), (mY, .inl (cI, 2600, .inl eY)), (mL, .inl (cI, 512, .inl eL))] sz) := by
  refine Met.ofW (cc := cX12_readAt) (maxL := 7) (ret := (some .int)) (by decide) rfl ?_
  intro p e s m args below meth c s₁ B hml hv
  obtain ⟨rfl, hsz, hP, hK, hD0⟩ := hv
  have hx := B.exec
  have hb := B.bytes
  have hr := B.returns
  have hts := atoms_spec (ws := wsX12_readAt) B.pre
  have hown : s.vm.findClass RX12 = some m.cls := findClass_of_methodNamed B.named
  have hlocks := B.notSynchronized
  have in_X12 : ∀ w ∈ wsX120, w ∈ wsX12_readAt := fun _ h => List.mem_cons_of_mem _ (List.mem_append_right _ (h))
  subst hsz
  have hD := hD0.self (sz := s.heap.size)
  generalize hAe : va_A [(oM, .inr (12, [.ref mT, .int zt, .ref mS, .ref mX, .int zp, .int zf, .ref mL, .ref mB, .ref mD, .ref m1, .ref m2, .int zh, .ref mR, .int zr, .ref x1, .ref x2, .ref x3, .int zc, .ref mH, .int zy, .int za, .int zb, .int zs, .int zq, .int zw, .int ze, .ref mY, .int zn, .ref mE, .int zm, .int zl, .ref mW, .int zk, .ref mO, .int zd, .ref y1, .ref y2, .ref y3, .ref y4, .ref mZ])), (mY, .inl (cI, 2600, .inl eY)), (mL, .inl (cI, 512, .inl eL))] s.heap.size = A at hD ⊢
  have hA : ∀ q : Nat, s.heap.size ≤ q → A q := fun q h => by rw [← hAe]; exact Or.inr h
  have hS : va_S A s.heap s.heap [] := va_S.rf
  have hP : va_P (dC, dI) vwCl [(oM, .inr (12, [.ref mT, .int zt, .ref mS, .ref mX, .int zp, .int zf, .ref mL, .ref mB, .ref mD, .ref m1, .ref m2, .int zh, .ref mR, .int zr, .ref x1, .ref x2, .ref x3, .int zc, .ref mH, .int zy, .int za, .int zb, .int zs, .int zq, .int zw, .int ze, .ref mY, .int zn, .ref mE, .int zm, .int zl, .ref mW, .int zk, .ref mO, .int zd, .ref y1, .ref y2, .ref y3, .ref y4, .ref mZ])), (mY, .inl (cI, 2600, .inl eY)), (mL, .inl (cI, 512, .inl eL))] s.heap := hP
  have hl := lv_entry ([.ref oM, .int cd, .int q]) (n := 7) (Nat.le_of_ble_eq_true rfl)
  rw [lg_entry_eq]
  generalize (lg_sl ([.ref oM, .int cd, .int q]) ++ List.replicate (7 - (lg_sl ([.ref oM, .int cd, .int q])).length) Slot.unset).toArray = ls at hl ⊢
  have hl : lv_has ls 7 [(0, .ref oM), (1, .int cd), (2, .int q)] := hl
  obtain ⟨QQ, hQQ⟩ : ∃ QQ : Array Value → State → Outcome → State → Prop, QQ = va_Qi (fun (r : Int32) (u : Int32) => r = u) (fun (r : Int32) t => ∃ (zd' : Int32), va_P (dC, dI) vwCl [(oM, .inr (12, [.ref mT, .int zt, .ref mS, .ref mX, .int zp, .int zf, .ref mL, .ref mB, .ref mD, .ref m1, .ref m2, .int zh, .ref mR, .int zr, .ref x1, .ref x2, .ref x3, .int zc, .ref mH, .int zy, .int za, .int zb, .int zs, .int zq, .int zw, .int ze, .ref mY, .int zn, .ref mE, .int zm, .int zl, .ref mW, .int zk, .ref mO, .int zd', .ref y1, .ref y2, .ref y3, .ref y4, .ref mZ])), (mY, .inl (cI, 2600, .inl eY)), (mL, .inl (cI, 512, .inl eL))] t.heap ∧ va_D A [(oM, .inr (12, [.ref mT, .int zt, .ref mS, .ref mX, .int zp, .int zf, .ref mL, .ref mB, .ref mD, .ref m1, .ref m2, .int zh, .ref mR, .int zr, .ref x1, .ref x2, .ref x3, .int zc, .ref mH, .int zy, .int za, .int zb, .int zs, .int zq, .int zw, .int ze, .ref mY, .int zn, .ref mE, .int zm, .int zl, .ref mW, .int zk, .ref mO, .int zd', .ref y1, .ref y2, .ref y3, .ref y4, .ref mZ])), (mY, .inl (cI, 2600, .inl eY)), (mL, .inl (cI, 512, .inl eL))] ∧ (0 ≤ r.toInt ∧ r.toInt ≤ 9) ∧ (r.toInt = 0 ∨ (0 ≤ zd'.toInt ∧ zd'.toInt ≤ 65535))) A := ⟨_, rfl⟩
  rw [← hQQ]
  refine lv_aload_n hx hb dX12_readAt_0 rfl (lv_at hl 0 rfl) ?_
  refine va_get (D := (dC, dI)) (ci := 12) (v := .ref mY) (C := RX12) (T := TX12) (N := 40) hx hb hts in_X12 hown hK hP 0 rfl rfl 26 (by decide) (hts (.fieldLink RX12 58 "TextMenderModel" "bytes" "[I") (List.mem_of_getElem? (i := 1) rfl)) (fun _ h9 => h9) rfl dX12_readAt_1 ?_
  refine lv_iload_n hx hb dX12_readAt_4 rfl (lv_at hl 2 rfl) ?_
  refine va_iald hx hb hK hP 1 0 rfl rfl (v_in (by omega)) dX12_readAt_5 ?_
  refine lv_topi (fun x_1 ex_1 => ?_)
  have tx_1 : 0 ≤ x_1.toInt ∧ x_1.toInt ≤ 255 := rg_at g_eY ex_1
  refine lv_istore_n (lv' := [(3, .int x_1), (0, .ref oM), (1, .int cd), (2, .int q)]) hx hb dX12_readAt_6 rfl hl (by decide) rfl (fun ls hl => ?_)
  refine lv_aload_n hx hb dX12_readAt_7 rfl (lv_at hl 1 rfl) ?_
  refine lv_iload_n hx hb dX12_readAt_8 rfl (lv_at hl 0 rfl) ?_
  refine va_put (D := (dC, dI)) (ci := 12) (v := .int x_1) (ty := .int) (C := RX12) (T := TX12) (N := 40) hx hb hts in_X12 tyX12 tyX12_ok nmX12 hown hK hP hD hS 0 rfl rfl 34 (by decide) (hts (.fieldLink RX12 105 "TextMenderModel" "readLetter" "I") (List.mem_of_getElem? (i := 2) rfl)) (fun _ h9 => h9) rfl (by decide +kernel) rfl rfl (Nat.le_of_ble_eq_true rfl) dX12_readAt_9 (fun H locs hPn hDn hSn => ?_)
  clear hP hD hS
  have hP : va_P (dC, dI) vwCl [(oM, .inr (12, [.ref mT, .int zt, .ref mS, .ref mX, .int zp, .int zf, .ref mL, .ref mB, .ref mD, .ref m1, .ref m2, .int zh, .ref mR, .int zr, .ref x1, .ref x2, .ref x3, .int zc, .ref mH, .int zy, .int za, .int zb, .int zs, .int zq, .int zw, .int ze, .ref mY, .int zn, .ref mE, .int zm, .int zl, .ref mW, .int zk, .ref mO, .int x_1, .ref y1, .ref y2, .ref y3, .ref y4, .ref mZ])), (mY, .inl (cI, 2600, .inl eY)), (mL, .inl (cI, 512, .inl eL))] H := hPn
  have hD : va_D A [(oM, .inr (12, [.ref mT, .int zt, .ref mS, .ref mX, .int zp, .int zf, .ref mL, .ref mB, .ref mD, .ref m1, .ref m2, .int zh, .ref mR, .int zr, .ref x1, .ref x2, .ref x3, .int zc, .ref mH, .int zy, .int za, .int zb, .int zs, .int zq, .int zw, .int ze, .ref mY, .int zn, .ref mE, .int zm, .int zl, .ref mW, .int zk, .ref mO, .int x_1, .ref y1, .ref y2, .ref y3, .ref y4, .ref mZ])), (mY, .inl (cI, 2600, .inl eY)), (mL, .inl (cI, 512, .inl eL))] := hDn
  have hS := hSn
  clear hPn hDn hSn
  refine lv_iload_n hx hb dX12_readAt_12 rfl (lv_at hl 2 rfl) ?_
  refine lv_iconst (v := 2) hx hb dX12_readAt_13 (by decide) ?_
  refine lv_icmp_ge (tgt := 39) hx hb dX12_readAt_14 (by decide) (fun c_2 => ?_) (fun c_2 => ?_)
  · have tc_2 : 2 ≤ cd.toInt := v_le c_2
    refine lv_iload_n hx hb dX12_readAt_39 rfl (lv_at hl 2 rfl) ?_
    refine lv_iconst (v := 3) hx hb dX12_readAt_40 (by decide) ?_
    refine lv_icmp_le (tgt := 76) hx hb dX12_readAt_41 (by decide) (fun c_3 => ?_) (fun c_3 => ?_)
    · have tc_3 : cd.toInt ≤ 3 := v_le c_3
      refine lv_iload_n hx hb dX12_readAt_76 rfl (lv_at hl 0 rfl) ?_
      refine lv_bipush (v := 127) hx hb dX12_readAt_77 (by decide) ?_
      refine lv_icmp_le (tgt := 89) hx hb dX12_readAt_79 (by decide) (fun c_4 => ?_) (fun c_4 => ?_)
      · have tc_4 : x_1.toInt ≤ 127 := v_le c_4
        refine lv_iload_n hx hb dX12_readAt_89 rfl (lv_at hl 0 rfl) ?_
        refine lv_sipush (v := 128) hx hb dX12_readAt_90 (by decide) ?_
        refine lv_icmp_ge (tgt := 109) hx hb dX12_readAt_93 (by decide) (fun c_5 => by exfalso; have tc_5 : 128 ≤ x_1.toInt := v_le c_5; omega) (fun c_5 => ?_)
        have tc_5 : x_1.toInt < 128 := v_nle c_5
        refine lv_iload_n hx hb dX12_readAt_96 rfl (lv_at hl 2 rfl) ?_
        refine lv_iconst (v := 2) hx hb dX12_readAt_97 (by decide) ?_
        refine lv_icmp_eq (tgt := 107) hx hb dX12_readAt_98 (by decide) (fun c_6 => ?_) (fun c_6 => ?_)
        · have tc_6 : cd.toInt = 2 := v_eq c_6
          refine lv_iconst (v := 1) hx hb dX12_readAt_107 (by decide) ?_
          have hP9 := hP.sub (ws' := [(oM, .inr (12, [.ref mT, .int zt, .ref mS, .ref mX, .int zp, .int zf, .ref mL, .ref mB, .ref mD, .ref m1, .ref m2, .int zh, .ref mR, .int zr, .ref x1, .ref x2, .ref x3, .int zc, .ref mH, .int zy, .int za, .int zb, .int zs, .int zq, .int zw, .int ze, .ref mY, .int zn, .ref mE, .int zm, .int zl, .ref mW, .int zk, .ref mO, .int x_1, .ref y1, .ref y2, .ref y3, .ref y4, .ref mZ])), (mY, .inl (cI, 2600, .inl eY)), (mL, .inl (cI, 512, .inl eL))]) [0, 1, 2] rfl
          have hD9 := hD.sub (ws' := [(oM, .inr (12, [.ref mT, .int zt, .ref mS, .ref mX, .int zp, .int zf, .ref mL, .ref mB, .ref mD, .ref m1, .ref m2, .int zh, .ref mR, .int zr, .ref x1, .ref x2, .ref x3, .int zc, .ref mH, .int zy, .int za, .int zb, .int zs, .int zq, .int zw, .int ze, .ref mY, .int zn, .ref mE, .int zm, .int zl, .ref mW, .int zk, .ref mO, .int x_1, .ref y1, .ref y2, .ref y3, .ref y4, .ref mZ])), (mY, .inl (cI, 2600, .inl eY)), (mL, .inl (cI, 512, .inl eL))]) [0, 1, 2] (by decide +kernel) rfl
          rw [hQQ]
          exact W.iret (v := 1) hx hb hr (fun t ht hW => ⟨⟨1, 1, rfl, rfl, ⟨x_1, by rw [ht]; exact hP9, hD9, by decide, by show 1 = 0 ∨ (0 ≤ x_1.toInt ∧ x_1.toInt ≤ 65535); omega⟩⟩, hS.F ht⟩) hS.2.2 dX12_readAt_108
        · have tc_6 : ¬ cd.toInt = 2 := v_ne c_6
          refine lv_iload_n hx hb dX12_readAt_101 rfl (lv_at hl 0 rfl) ?_
          refine lv_bipush (v := 38) hx hb dX12_readAt_102 (by decide) ?_
          refine lv_icmp_eq (tgt := 109) hx hb dX12_readAt_104 (by decide) (fun c_7 => ?_) (fun c_7 => ?_)
          · have tc_7 : x_1.toInt = 38 := v_eq c_7
            refine lv_iload_n hx hb dX12_readAt_109 rfl (lv_at hl 2 rfl) ?_
            refine lv_iconst (v := 2) hx hb dX12_readAt_110 (by decide) ?_
            refine lv_icmp_ne (tgt := 264) hx hb dX12_readAt_111 (by decide) (fun c_8 => ?_) (fun c_8 => by exfalso; have tc_8 : cd.toInt = 2 := v_eq c_8; omega)
            have tc_8 : ¬ cd.toInt = 2 := v_ne c_8
            refine lv_aload_n hx hb dX12_readAt_264 rfl (lv_at hl 1 rfl) ?_
            refine lv_iload_n hx hb dX12_readAt_265 rfl (lv_at hl 3 rfl) ?_
            refine lv_iconst (v := 1) hx hb dX12_readAt_266 (by decide) ?_
            refine lv_iadd hx hb dX12_readAt_267 ?_
            refine lv_topi (fun x_9 ex_9 => ?_)
            have tx_9 : x_9.toInt = q.toInt + 1 := v_add ex_9 (by show -2147483648 ≤ q.toInt + 1; omega) (by show q.toInt + 1 < 2147483648; omega)
            have hPc := hP.sub (ws' := [(oM, .inr (12, [.ref mT, .int zt, .ref mS, .ref mX, .int zp, .int zf, .ref mL, .ref mB, .ref mD, .ref m1, .ref m2, .int zh, .ref mR, .int zr, .ref x1, .ref x2, .ref x3, .int zc, .ref mH, .int zy, .int za, .int zb, .int zs, .int zq, .int zw, .int ze, .ref mY, .int zn, .ref mE, .int zm, .int zl, .ref mW, .int zk, .ref mO, .int x_1, .ref y1, .ref y2, .ref y3, .ref y4, .ref mZ])), (mY, .inl (cI, 2600, .inl eY))]) [0, 1] rfl
            have hDc := hD.sub (ws' := [(oM, .inr (12, [.ref mT, .int zt, .ref mS, .ref mX, .int zp, .int zf, .ref mL, .ref mB, .ref mD, .ref m1, .ref m2, .int zh, .ref mR, .int zr, .ref x1, .ref x2, .ref x3, .int zc, .ref mH, .int zy, .int za, .int zb, .int zs, .int zq, .int zw, .int ze, .ref mY, .int zn, .ref mE, .int zm, .int zl, .ref mW, .int zk, .ref mO, .int x_1, .ref y1, .ref y2, .ref y3, .ref y4, .ref mZ])), (mY, .inl (cI, 2600, .inl eY))]) [0, 1] (by decide +kernel) rfl
            have hFc := va_free (wc := [(oM, .inr (12, [.ref mT, .int zt, .ref mS, .ref mX, .int zp, .int zf, .ref mL, .ref mB, .ref mD, .ref m1, .ref m2, .int zh, .ref mR, .int zr, .ref x1, .ref x2, .ref x3, .int zc, .ref mH, .int zy, .int za, .int zb, .int zs, .int zq, .int zw, .int ze, .ref mY, .int zn, .ref mE, .int zm, .int zl, .ref mW, .int zk, .ref mO, .int x_1, .ref y1, .ref y2, .ref y3, .ref y4, .ref mZ])), (mY, .inl (cI, 2600, .inl eY))]) hD hS hA [0, 1] rfl
            refine va_calli (va_runV (As := [.int x_9]) (rest := []) ⟨hx, hb, hml, hown, hts⟩ (m_X12_byteAt l dC dI cI cS H.size oM mT mS mX mL mB mD m1 m2 mR x1 x2 x3 mH mY mE mW mO y1 y2 y3 y4 mZ zt zp zf zh zr zc zy za zb zs zq zw ze zn zm zl zk x_1 eY x_9 (g_zt) (g_zp) (g_zf) (g_zh) (g_zr) (g_zc) (g_zy) (g_za) (g_zb) (g_zs) (g_zq) (g_zn) (g_zm) (g_zk) (g_eY) (by omega)) (cwV 1 hts gX12_readAt_X12_byteAt rfl rfl rfl (by decide +kernel) ⟨Nat.le_of_ble_eq_true rfl, Nat.le_of_ble_eq_true rfl⟩) ⟨fun a U g mk q => by obtain ⟨q0, q1, qP, qK, qD⟩ := q; exact ⟨q0, q1, qP, va_K.moved (u := U) (U := U.calling g mk a) (Vm.Alike.refl U.vm) qK, qD⟩, va_recv hK hPc (ci := 12) (q0 := 0) rfl rfl, fun U hU hW => ⟨rfl, by rw [hU], by rw [hU]; exact hPc, va_K.moved hW.alike hK, hDc.weaken (fun _ _ _ _ => trivial)⟩⟩ rfl rfl hl.1 rfl (lv_room (Nat.le_of_ble_eq_true rfl)) dX12_readAt_268 ⟨Nat.le_of_ble_eq_true rfl, Nat.le_of_ble_eq_true rfl⟩) hS (fun q _ h => hFc q h) hFc (fun r_10 u t H1 locs ht hvm hw hB hz1 hk1 hSn => ?_)
            subst hw
            obtain ⟨hP1, hD1, hf10_0, hf10_1⟩ := hB
            rw [ht] at hP1
            obtain ⟨hPn, hDn⟩ := va_join (wr := [(mL, .inl (cI, 512, .inl eL))]) (w1 := [(oM, .inr (12, [.ref mT, .int zt, .ref mS, .ref mX, .int zp, .int zf, .ref mL, .ref mB, .ref mD, .ref m1, .ref m2, .int zh, .ref mR, .int zr, .ref x1, .ref x2, .ref x3, .int zc, .ref mH, .int zy, .int za, .int zb, .int zs, .int zq, .int zw, .int ze, .ref mY, .int zn, .ref mE, .int zm, .int zl, .ref mW, .int zk, .ref mO, .int x_1, .ref y1, .ref y2, .ref y3, .ref y4, .ref mZ])), (mY, .inl (cI, 2600, .inl eY))]) hP hD [0, 1] [2] rfl rfl (by decide +kernel) (by decide +kernel) hk1 hFc hP1 hD1
            clear hP hD hS hPc hDc hFc hk1 hz1 hvm ht hP1 hD1
            generalize H1 = H at hPn hSn ⊢
            have hP : va_P (dC, dI) vwCl [(mL, .inl (cI, 512, .inl eL)), (oM, .inr (12, [.ref mT, .int zt, .ref mS, .ref mX, .int zp, .int zf, .ref mL, .ref mB, .ref mD, .ref m1, .ref m2, .int zh, .ref mR, .int zr, .ref x1, .ref x2, .ref x3, .int zc, .ref mH, .int zy, .int za, .int zb, .int zs, .int zq, .int zw, .int ze, .ref mY, .int zn, .ref mE, .int zm, .int zl, .ref mW, .int zk, .ref mO, .int x_1, .ref y1, .ref y2, .ref y3, .ref y4, .ref mZ])), (mY, .inl (cI, 2600, .inl eY))] H := hPn
            have hD : va_D A [(mL, .inl (cI, 512, .inl eL)), (oM, .inr (12, [.ref mT, .int zt, .ref mS, .ref mX, .int zp, .int zf, .ref mL, .ref mB, .ref mD, .ref m1, .ref m2, .int zh, .ref mR, .int zr, .ref x1, .ref x2, .ref x3, .int zc, .ref mH, .int zy, .int za, .int zb, .int zs, .int zq, .int zw, .int ze, .ref mY, .int zn, .ref mE, .int zm, .int zl, .ref mW, .int zk, .ref mO, .int x_1, .ref y1, .ref y2, .ref y3, .ref y4, .ref mZ])), (mY, .inl (cI, 2600, .inl eY))] := hDn
            have hS := hSn
            clear hPn hDn hSn
            refine lv_bipush (v := 35) hx hb dX12_readAt_271 (by decide) ?_
            refine lv_icmp_eq (tgt := 278) hx hb dX12_readAt_273 (by decide) (fun c_11 => ?_) (fun c_11 => ?_)
            · have tc_11 : r_10.toInt = 35 := v_eq c_11
              refine lv_iload_n hx hb dX12_readAt_278 rfl (lv_at hl 3 rfl) ?_
              refine lv_iconst (v := 2) hx hb dX12_readAt_279 (by decide) ?_
              refine lv_iadd hx hb dX12_readAt_280 ?_
              refine lv_topi (fun x_12 ex_12 => ?_)
              have tx_12 : x_12.toInt = q.toInt + 2 := v_add ex_12 (by show -2147483648 ≤ q.toInt + 2; omega) (by show q.toInt + 2 < 2147483648; omega)
              refine lv_istore (lv' := [(4, .int x_12), (3, .int x_1), (0, .ref oM), (1, .int cd), (2, .int q)]) hx hb dX12_readAt_281 hl (by decide) rfl (fun ls hl => ?_)
              refine lv_iconst (v := 0) hx hb dX12_readAt_283 (by decide) ?_
              refine lv_istore (lv' := [(5, .int 0), (4, .int x_12), (3, .int x_1), (0, .ref oM), (1, .int cd), (2, .int q)]) hx hb dX12_readAt_284 hl (by decide) rfl (fun ls hl => ?_)
              have LOOP_286 : ∀ (k_286 : Nat) (qq : Int32) (x : Int32) (H : Heap) (locs : List Loc) (ls : Array Slot), MSd (q.toInt + 8 - qq.toInt : Int) k_286 → (2 ≤ qq.toInt ∧ qq.toInt ≤ 2608) → (q.toInt + 2 ≤ qq.toInt ∧ qq.toInt ≤ q.toInt + 8) → va_P (dC, dI) vwCl [(mL, .inl (cI, 512, .inl eL)), (oM, .inr (12, [.ref mT, .int zt, .ref mS, .ref mX, .int zp, .int zf, .ref mL, .ref mB, .ref mD, .ref m1, .ref m2, .int zh, .ref mR, .int zr, .ref x1, .ref x2, .ref x3, .int zc, .ref mH, .int zy, .int za, .int zb, .int zs, .int zq, .int zw, .int ze, .ref mY, .int zn, .ref mE, .int zm, .int zl, .ref mW, .int zk, .ref mO, .int x_1, .ref y1, .ref y2, .ref y3, .ref y4, .ref mZ])), (mY, .inl (cI, 2600, .inl eY))] H → va_D A [(mL, .inl (cI, 512, .inl eL)), (oM, .inr (12, [.ref mT, .int zt, .ref mS, .ref mX, .int zp, .int zf, .ref mL, .ref mB, .ref mD, .ref m1, .ref m2, .int zh, .ref mR, .int zr, .ref x1, .ref x2, .ref x3, .int zc, .ref mH, .int zy, .int za, .int zb, .int zs, .int zq, .int zw, .int ze, .ref mY, .int zn, .ref mE, .int zm, .int zl, .ref mW, .int zk, .ref mO, .int x_1, .ref y1, .ref y2, .ref y3, .ref y4, .ref mZ])), (mY, .inl (cI, 2600, .inl eY))] → va_S A s.heap H locs → lv_has ls 7 [(5, .int x), (4, .int qq), (3, .int x_1), (0, .ref oM), (1, .int cd), (2, .int q)] → W p l e (headSpec wsX12_readAt ({ frames := 1, cells := 0, slots := 0, locals := 21 } : Room)).room s m ([.ref oM, .int cd, .int q] : List Value).toArray below meth c H locs 0 0 (MQ below QQ ([.ref oM, .int cd, .int q] : List Value).toArray s 0 0 A) (F0 m 286 ls []) := by
                clear hP hD hS hl
                intro k_286
                induction k_286 with
                | zero =>
                  intro qq x H locs ls hm_286 g_qq hqq hP hD hS hl
                  exact ms_0 hm_286
                | succ k_286 ih_286 =>
                  intro qq x H locs ls hm_286 g_qq hqq hP hD hS hl
                  refine lv_aload_n hx hb dX12_readAt_286 rfl (lv_at hl 3 rfl) ?_
                  refine lv_iload hx hb dX12_readAt_287 (lv_at hl 1 rfl) ?_
                  have hPc := hP.sub (ws' := [(oM, .inr (12, [.ref mT, .int zt, .ref mS, .ref mX, .int zp, .int zf, .ref mL, .ref mB, .ref mD, .ref m1, .ref m2, .int zh, .ref mR, .int zr, .ref x1, .ref x2, .ref x3, .int zc, .ref mH, .int zy, .int za, .int zb, .int zs, .int zq, .int zw, .int ze, .ref mY, .int zn, .ref mE, .int zm, .int zl, .ref mW, .int zk, .ref mO, .int x_1, .ref y1, .ref y2, .ref y3, .ref y4, .ref mZ])), (mY, .inl (cI, 2600, .inl eY))]) [1, 2] rfl
                  have hDc := hD.sub (ws' := [(oM, .inr (12, [.ref mT, .int zt, .ref mS, .ref mX, .int zp, .int zf, .ref mL, .ref mB, .ref mD, .ref m1, .ref m2, .int zh, .ref mR, .int zr, .ref x1, .ref x2, .ref x3, .int zc, .ref mH, .int zy, .int za, .int zb, .int zs, .int zq, .int zw, .int ze, .ref mY, .int zn, .ref mE, .int zm, .int zl, .ref mW, .int zk, .ref mO, .int x_1, .ref y1, .ref y2, .ref y3, .ref y4, .ref mZ])), (mY, .inl (cI, 2600, .inl eY))]) [1, 2] (by decide +kernel) rfl
                  have hFc := va_free (wc := [(oM, .inr (12, [.ref mT, .int zt, .ref mS, .ref mX, .int zp, .int zf, .ref mL, .ref mB, .ref mD, .ref m1, .ref m2, .int zh, .ref mR, .int zr, .ref x1, .ref x2, .ref x3, .int zc, .ref mH, .int zy, .int za, .int zb, .int zs, .int zq, .int zw, .int ze, .ref mY, .int zn, .ref mE, .int zm, .int zl, .ref mW, .int zk, .ref mO, .int x_1, .ref y1, .ref y2, .ref y3, .ref y4, .ref mZ])), (mY, .inl (cI, 2600, .inl eY))]) hD hS hA [1, 2] rfl
                  refine va_calli (va_runV (As := [.int qq]) (rest := []) ⟨hx, hb, hml, hown, hts⟩ (m_X12_byteAt l dC dI cI cS H.size oM mT mS mX mL mB mD m1 m2 mR x1 x2 x3 mH mY mE mW mO y1 y2 y3 y4 mZ zt zp zf zh zr zc zy za zb zs zq zw ze zn zm zl zk x_1 eY qq (g_zt) (g_zp) (g_zf) (g_zh) (g_zr) (g_zc) (g_zy) (g_za) (g_zb) (g_zs) (g_zq) (g_zn) (g_zm) (g_zk) (g_eY) (by omega)) (cwV 1 hts gX12_readAt_X12_byteAt rfl rfl rfl (by decide +kernel) ⟨Nat.le_of_ble_eq_true rfl, Nat.le_of_ble_eq_true rfl⟩) ⟨fun a U g mk q => by obtain ⟨q0, q1, qP, qK, qD⟩ := q; exact ⟨q0, q1, qP, va_K.moved (u := U) (U := U.calling g mk a) (Vm.Alike.refl U.vm) qK, qD⟩, va_recv hK hPc (ci := 12) (q0 := 0) rfl rfl, fun U hU hW => ⟨rfl, by rw [hU], by rw [hU]; exact hPc, va_K.moved hW.alike hK, hDc.weaken (fun _ _ _ _ => trivial)⟩⟩ rfl rfl hl.1 rfl (lv_room (Nat.le_of_ble_eq_true rfl)) dX12_readAt_289 ⟨Nat.le_of_ble_eq_true rfl, Nat.le_of_ble_eq_true rfl⟩) hS (fun q _ h => hFc q h) hFc (fun r_13 u t H1 locs ht hvm hw hB hz1 hk1 hSn => ?_)
                  subst hw
                  obtain ⟨hP1, hD1, hf13_0, hf13_1⟩ := hB
                  rw [ht] at hP1
                  obtain ⟨hPn, hDn⟩ := va_join (wr := [(mL, .inl (cI, 512, .inl eL))]) (w1 := [(oM, .inr (12, [.ref mT, .int zt, .ref mS, .ref mX, .int zp, .int zf, .ref mL, .ref mB, .ref mD, .ref m1, .ref m2, .int zh, .ref mR, .int zr, .ref x1, .ref x2, .ref x3, .int zc, .ref mH, .int zy, .int za, .int zb, .int zs, .int zq, .int zw, .int ze, .ref mY, .int zn, .ref mE, .int zm, .int zl, .ref mW, .int zk, .ref mO, .int x_1, .ref y1, .ref y2, .ref y3, .ref y4, .ref mZ])), (mY, .inl (cI, 2600, .inl eY))]) hP hD [1, 2] [0] rfl rfl (by decide +kernel) (by decide +kernel) hk1 hFc hP1 hD1
                  clear hP hD hS hPc hDc hFc hk1 hz1 hvm ht hP1 hD1
                  generalize H1 = H at hPn hSn ⊢
                  have hP : va_P (dC, dI) vwCl [(mL, .inl (cI, 512, .inl eL)), (oM, .inr (12, [.ref mT, .int zt, .ref mS, .ref mX, .int zp, .int zf, .ref mL, .ref mB, .ref mD, .ref m1, .ref m2, .int zh, .ref mR, .int zr, .ref x1, .ref x2, .ref x3, .int zc, .ref mH, .int zy, .int za, .int zb, .int zs, .int zq, .int zw, .int ze, .ref mY, .int zn, .ref mE, .int zm, .int zl, .ref mW, .int zk, .ref mO, .int x_1, .ref y1, .ref y2, .ref y3, .ref y4, .ref mZ])), (mY, .inl (cI, 2600, .inl eY))] H := hPn
                  have hD : va_D A [(mL, .inl (cI, 512, .inl eL)), (oM, .inr (12, [.ref mT, .int zt, .ref mS, .ref mX, .int zp, .int zf, .ref mL, .ref mB, .ref mD, .ref m1, .ref m2, .int zh, .ref mR, .int zr, .ref x1, .ref x2, .ref x3, .int zc, .ref mH, .int zy, .int za, .int zb, .int zs, .int zq, .int zw, .int ze, .ref mY, .int zn, .ref mE, .int zm, .int zl, .ref mW, .int zk, .ref mO, .int x_1, .ref y1, .ref y2, .ref y3, .ref y4, .ref mZ])), (mY, .inl (cI, 2600, .inl eY))] := hDn
                  have hS := hSn
                  clear hPn hDn hSn
                  refine lv_bipush (v := 48) hx hb dX12_readAt_292 (by decide) ?_
                  refine lv_icmp_lt (tgt := 356) hx hb dX12_readAt_294 (by decide) (fun c_14 => ?_) (fun c_14 => ?_)
                  · have tc_14 : r_13.toInt < 48 := v_lt c_14
                    refine lv_aload_n hx hb dX12_readAt_356 rfl (lv_at hl 3 rfl) ?_
                    refine lv_iload hx hb dX12_readAt_357 (lv_at hl 0 rfl) ?_
                    refine va_put (D := (dC, dI)) (ci := 12) (v := .int x) (ty := .int) (C := RX12) (T := TX12) (N := 40) hx hb hts in_X12 tyX12 tyX12_ok nmX12 hown hK hP hD hS 1 rfl rfl 34 (by decide) (hts (.fieldLink RX12 105 "TextMenderModel" "readLetter" "I") (List.mem_of_getElem? (i := 2) rfl)) (fun _ h9 => h9) rfl (by decide +kernel) rfl rfl (Nat.le_of_ble_eq_true rfl) dX12_readAt_359 (fun H locs hPn hDn hSn => ?_)
                    clear hP hD hS
                    have hP : va_P (dC, dI) vwCl [(mL, .inl (cI, 512, .inl eL)), (oM, .inr (12, [.ref mT, .int zt, .ref mS, .ref mX, .int zp, .int zf, .ref mL, .ref mB, .ref mD, .ref m1, .ref m2, .int zh, .ref mR, .int zr, .ref x1, .ref x2, .ref x3, .int zc, .ref mH, .int zy, .int za, .int zb, .int zs, .int zq, .int zw, .int ze, .ref mY, .int zn, .ref mE, .int zm, .int zl, .ref mW, .int zk, .ref mO, .int x, .ref y1, .ref y2, .ref y3, .ref y4, .ref mZ])), (mY, .inl (cI, 2600, .inl eY))] H := hPn
                    have hD : va_D A [(mL, .inl (cI, 512, .inl eL)), (oM, .inr (12, [.ref mT, .int zt, .ref mS, .ref mX, .int zp, .int zf, .ref mL, .ref mB, .ref mD, .ref m1, .ref m2, .int zh, .ref mR, .int zr, .ref x1, .ref x2, .ref x3, .int zc, .ref mH, .int zy, .int za, .int zb, .int zs, .int zq, .int zw, .int ze, .ref mY, .int zn, .ref mE, .int zm, .int zl, .ref mW, .int zk, .ref mO, .int x, .ref y1, .ref y2, .ref y3, .ref y4, .ref mZ])), (mY, .inl (cI, 2600, .inl eY))] := hDn
                    have hS := hSn
                    clear hPn hDn hSn
                    refine lv_iload hx hb dX12_readAt_362 (lv_at hl 1 rfl) ?_
                    refine lv_iload_n hx hb dX12_readAt_364 rfl (lv_at hl 5 rfl) ?_
                    refine lv_iconst (v := 2) hx hb dX12_readAt_365 (by decide) ?_
                    refine lv_iadd hx hb dX12_readAt_366 ?_
                    refine lv_topi (fun x_15 ex_15 => ?_)
                    have tx_15 : x_15.toInt = q.toInt + 2 := v_add ex_15 (by show -2147483648 ≤ q.toInt + 2; omega) (by show q.toInt + 2 < 2147483648; omega)
                    refine lv_icmp_le (tgt := 407) hx hb dX12_readAt_367 (by decide) (fun c_16 => ?_) (fun c_16 => ?_)
                    · have tc_16 : qq.toInt ≤ x_15.toInt := v_le c_16
                      refine lv_iconst (v := 0) hx hb dX12_readAt_407 (by decide) ?_
                      refine lv_istore (lv' := [(6, .int 0), (5, .int x), (4, .int qq), (3, .int x_1), (0, .ref oM), (1, .int cd), (2, .int q)]) hx hb dX12_readAt_408 hl (by decide) rfl (fun ls hl => ?_)
                      refine lv_iload hx hb dX12_readAt_410 (lv_at hl 0 rfl) ?_
                      refine lv_if_eq (tgt := 424) hx hb dX12_readAt_412 (by decide) (fun c_17 => ?_) (fun c_17 => absurd c_17 (by decide))
                      refine lv_iconst (v := 0) hx hb dX12_readAt_424 (by decide) ?_
                      have hP9 := hP.sub (ws' := [(oM, .inr (12, [.ref mT, .int zt, .ref mS, .ref mX, .int zp, .int zf, .ref mL, .ref mB, .ref mD, .ref m1, .ref m2, .int zh, .ref mR, .int zr, .ref x1, .ref x2, .ref x3, .int zc, .ref mH, .int zy, .int za, .int zb, .int zs, .int zq, .int zw, .int ze, .ref mY, .int zn, .ref mE, .int zm, .int zl, .ref mW, .int zk, .ref mO, .int x, .ref y1, .ref y2, .ref y3, .ref y4, .ref mZ])), (mY, .inl (cI, 2600, .inl eY)), (mL, .inl (cI, 512, .inl eL))]) [1, 2, 0] rfl
                      have hD9 := hD.sub (ws' := [(oM, .inr (12, [.ref mT, .int zt, .ref mS, .ref mX, .int zp, .int zf, .ref mL, .ref mB, .ref mD, .ref m1, .ref m2, .int zh, .ref mR, .int zr, .ref x1, .ref x2, .ref x3, .int zc, .ref mH, .int zy, .int za, .int zb, .int zs, .int zq, .int zw, .int ze, .ref mY, .int zn, .ref mE, .int zm, .int zl, .ref mW, .int zk, .ref mO, .int x, .ref y1, .ref y2, .ref y3, .ref y4, .ref mZ])), (mY, .inl (cI, 2600, .inl eY)), (mL, .inl (cI, 512, .inl eL))]) [1, 2, 0] (by decide +kernel) rfl
                      rw [hQQ]
                      exact W.iret (v := 0) hx hb hr (fun t ht hW => ⟨⟨0, 0, rfl, rfl, ⟨x, by rw [ht]; exact hP9, hD9, by decide, by show 0 = 0 ∨ (0 ≤ x.toInt ∧ x.toInt ≤ 65535); omega⟩⟩, hS.F ht⟩) hS.2.2 dX12_readAt_425
                    · have tc_16 : x_15.toInt < qq.toInt := v_nle c_16
                      refine lv_aload_n hx hb dX12_readAt_370 rfl (lv_at hl 3 rfl) ?_
                      refine lv_iload hx hb dX12_readAt_371 (lv_at hl 1 rfl) ?_
                      have hPc := hP.sub (ws' := [(oM, .inr (12, [.ref mT, .int zt, .ref mS, .ref mX, .int zp, .int zf, .ref mL, .ref mB, .ref mD, .ref m1, .ref m2, .int zh, .ref mR, .int zr, .ref x1, .ref x2, .ref x3, .int zc, .ref mH, .int zy, .int za, .int zb, .int zs, .int zq, .int zw, .int ze, .ref mY, .int zn, .ref mE, .int zm, .int zl, .ref mW, .int zk, .ref mO, .int x, .ref y1, .ref y2, .ref y3, .ref y4, .ref mZ])), (mY, .inl (cI, 2600, .inl eY))]) [1, 2] rfl
                      have hDc := hD.sub (ws' := [(oM, .inr (12, [.ref mT, .int zt, .ref mS, .ref mX, .int zp, .int zf, .ref mL, .ref mB, .ref mD, .ref m1, .ref m2, .int zh, .ref mR, .int zr, .ref x1, .ref x2, .ref x3, .int zc, .ref mH, .int zy, .int za, .int zb, .int zs, .int zq, .int zw, .int ze, .ref mY, .int zn, .ref mE, .int zm, .int zl, .ref mW, .int zk, .ref mO, .int x, .ref y1, .ref y2, .ref y3, .ref y4, .ref mZ])), (mY, .inl (cI, 2600, .inl eY))]) [1, 2] (by decide +kernel) rfl
                      have hFc := va_free (wc := [(oM, .inr (12, [.ref mT, .int zt, .ref mS, .ref mX, .int zp, .int zf, .ref mL, .ref mB, .ref mD, .ref m1, .ref m2, .int zh, .ref mR, .int zr, .ref x1, .ref x2, .ref x3, .int zc, .ref mH, .int zy, .int za, .int zb, .int zs, .int zq, .int zw, .int ze, .ref mY, .int zn, .ref mE, .int zm, .int zl, .ref mW, .int zk, .ref mO, .int x, .ref y1, .ref y2, .ref y3, .ref y4, .ref mZ])), (mY, .inl (cI, 2600, .inl eY))]) hD hS hA [1, 2] rfl
                      refine va_calli (va_runV (As := [.int qq]) (rest := []) ⟨hx, hb, hml, hown, hts⟩ (m_X12_byteAt l dC dI cI cS H.size oM mT mS mX mL mB mD m1 m2 mR x1 x2 x3 mH mY mE mW mO y1 y2 y3 y4 mZ zt zp zf zh zr zc zy za zb zs zq zw ze zn zm zl zk x eY qq (g_zt) (g_zp) (g_zf) (g_zh) (g_zr) (g_zc) (g_zy) (g_za) (g_zb) (g_zs) (g_zq) (g_zn) (g_zm) (g_zk) (g_eY) (by omega)) (cwV 1 hts gX12_readAt_X12_byteAt rfl rfl rfl (by decide +kernel) ⟨Nat.le_of_ble_eq_true rfl, Nat.le_of_ble_eq_true rfl⟩) ⟨fun a U g mk q => by obtain ⟨q0, q1, qP, qK, qD⟩ := q; exact ⟨q0, q1, qP, va_K.moved (u := U) (U := U.calling g mk a) (Vm.Alike.refl U.vm) qK, qD⟩, va_recv hK hPc (ci := 12) (q0 := 0) rfl rfl, fun U hU hW => ⟨rfl, by rw [hU], by rw [hU]; exact hPc, va_K.moved hW.alike hK, hDc.weaken (fun _ _ _ _ => trivial)⟩⟩ rfl rfl hl.1 rfl (lv_room (Nat.le_of_ble_eq_true rfl)) dX12_readAt_373 ⟨Nat.le_of_ble_eq_true rfl, Nat.le_of_ble_eq_true rfl⟩) hS (fun q _ h => hFc q h) hFc (fun r_18 u t H1 locs ht hvm hw hB hz1 hk1 hSn => ?_)
                      subst hw
                      obtain ⟨hP1, hD1, hf18_0, hf18_1⟩ := hB
                      rw [ht] at hP1
                      obtain ⟨hPn, hDn⟩ := va_join (wr := [(mL, .inl (cI, 512, .inl eL))]) (w1 := [(oM, .inr (12, [.ref mT, .int zt, .ref mS, .ref mX, .int zp, .int zf, .ref mL, .ref mB, .ref mD, .ref m1, .ref m2, .int zh, .ref mR, .int zr, .ref x1, .ref x2, .ref x3, .int zc, .ref mH, .int zy, .int za, .int zb, .int zs, .int zq, .int zw, .int ze, .ref mY, .int zn, .ref mE, .int zm, .int zl, .ref mW, .int zk, .ref mO, .int x, .ref y1, .ref y2, .ref y3, .ref y4, .ref mZ])), (mY, .inl (cI, 2600, .inl eY))]) hP hD [1, 2] [0] rfl rfl (by decide +kernel) (by decide +kernel) hk1 hFc hP1 hD1
                      clear hP hD hS hPc hDc hFc hk1 hz1 hvm ht hP1 hD1
                      generalize H1 = H at hPn hSn ⊢
                      have hP : va_P (dC, dI) vwCl [(mL, .inl (cI, 512, .inl eL)), (oM, .inr (12, [.ref mT, .int zt, .ref mS, .ref mX, .int zp, .int zf, .ref mL, .ref mB, .ref mD, .ref m1, .ref m2, .int zh, .ref mR, .int zr, .ref x1, .ref x2, .ref x3, .int zc, .ref mH, .int zy, .int za, .int zb, .int zs, .int zq, .int zw, .int ze, .ref mY, .int zn, .ref mE, .int zm, .int zl, .ref mW, .int zk, .ref mO, .int x, .ref y1, .ref y2, .ref y3, .ref y4, .ref mZ])), (mY, .inl (cI, 2600, .inl eY))] H := hPn
                      have hD : va_D A [(mL, .inl (cI, 512, .inl eL)), (oM, .inr (12, [.ref mT, .int zt, .ref mS, .ref mX, .int zp, .int zf, .ref mL, .ref mB, .ref mD, .ref m1, .ref m2, .int zh, .ref mR, .int zr, .ref x1, .ref x2, .ref x3, .int zc, .ref mH, .int zy, .int za, .int zb, .int zs, .int zq, .int zw, .int ze, .ref mY, .int zn, .ref mE, .int zm, .int zl, .ref mW, .int zk, .ref mO, .int x, .ref y1, .ref y2, .ref y3, .ref y4, .ref mZ])), (mY, .inl (cI, 2600, .inl eY))] := hDn
                      have hS := hSn
                      clear hPn hDn hSn
                      refine lv_bipush (v := 59) hx hb dX12_readAt_376 (by decide) ?_
                      refine lv_icmp_ne (tgt := 407) hx hb dX12_readAt_378 (by decide) (fun c_19 => ?_) (fun c_19 => ?_)
                      · have tc_19 : ¬ r_18.toInt = 59 := v_ne c_19
                        refine lv_iconst (v := 0) hx hb dX12_readAt_407 (by decide) ?_
                        refine lv_istore (lv' := [(6, .int 0), (5, .int x), (4, .int qq), (3, .int x_1), (0, .ref oM), (1, .int cd), (2, .int q)]) hx hb dX12_readAt_408 hl (by decide) rfl (fun ls hl => ?_)
                        refine lv_iload hx hb dX12_readAt_410 (lv_at hl 0 rfl) ?_
                        refine lv_if_eq (tgt := 424) hx hb dX12_readAt_412 (by decide) (fun c_20 => ?_) (fun c_20 => absurd c_20 (by decide))
                        refine lv_iconst (v := 0) hx hb dX12_readAt_424 (by decide) ?_
                        have hP9 := hP.sub (ws' := [(oM, .inr (12, [.ref mT, .int zt, .ref mS, .ref mX, .int zp, .int zf, .ref mL, .ref mB, .ref mD, .ref m1, .ref m2, .int zh, .ref mR, .int zr, .ref x1, .ref x2, .ref x3, .int zc, .ref mH, .int zy, .int za, .int zb, .int zs, .int zq, .int zw, .int ze, .ref mY, .int zn, .ref mE, .int zm, .int zl, .ref mW, .int zk, .ref mO, .int x, .ref y1, .ref y2, .ref y3, .ref y4, .ref mZ])), (mY, .inl (cI, 2600, .inl eY)), (mL, .inl (cI, 512, .inl eL))]) [1, 2, 0] rfl
                        have hD9 := hD.sub (ws' := [(oM, .inr (12, [.ref mT, .int zt, .ref mS, .ref mX, .int zp, .int zf, .ref mL, .ref mB, .ref mD, .ref m1, .ref m2, .int zh, .ref mR, .int zr, .ref x1, .ref x2, .ref x3, .int zc, .ref mH, .int zy, .int za, .int zb, .int zs, .int zq, .int zw, .int ze, .ref mY, .int zn, .ref mE, .int zm, .int zl, .ref mW, .int zk, .ref mO, .int x, .ref y1, .ref y2, .ref y3, .ref y4, .ref mZ])), (mY, .inl (cI, 2600, .inl eY)), (mL, .inl (cI, 512, .inl eL))]) [1, 2, 0] (by decide +kernel) rfl
                        rw [hQQ]
                        exact W.iret (v := 0) hx hb hr (fun t ht hW => ⟨⟨0, 0, rfl, rfl, ⟨x, by rw [ht]; exact hP9, hD9, by decide, by show 0 = 0 ∨ (0 ≤ x.toInt ∧ x.toInt ≤ 65535); omega⟩⟩, hS.F ht⟩) hS.2.2 dX12_readAt_425
                      · have tc_19 : r_18.toInt = 59 := v_eq c_19
                        refine lv_iload hx hb dX12_readAt_381 (lv_at hl 0 rfl) ?_
                        have hPc := hP.sub (ws' := []) [] rfl
                        have hDc := hD.sub (ws' := []) [] (by decide +kernel) rfl
                        have hFc := va_free (wc := []) hD hS hA [] rfl
                        refine va_calli (va_runS (As := [.int x]) (rest := []) ⟨hx, hb, hml, hown, hts⟩ (m_X12_isLetter l dC dI cI cS H.size x ) (va_cwS 1 hts gX12_readAt_X12_isLetter rfl rfl rfl (by decide +kernel) ⟨Nat.le_of_ble_eq_true rfl, Nat.le_of_ble_eq_true rfl⟩) ⟨fun a U g mk q => by obtain ⟨q0, q1, qP, qK, qD⟩ := q; exact ⟨q0, q1, qP, va_K.moved (u := U) (U := U.calling g mk a) (Vm.Alike.refl U.vm) qK, qD⟩, fun U hU hW => ⟨rfl, by rw [hU], by rw [hU]; exact hPc, va_K.moved hW.alike hK, hDc.weaken (fun _ _ _ _ => trivial)⟩⟩ rfl rfl hl.1 rfl (lv_room (Nat.le_of_ble_eq_true rfl)) dX12_readAt_383 ⟨Nat.le_of_ble_eq_true rfl, Nat.le_of_ble_eq_true rfl⟩) hS (fun q _ h => hFc q h) hFc (fun r_21 u t H1 locs ht hvm hw hB hz1 hk1 hSn => ?_)
                        subst hw
                        obtain ⟨hP1, hD1, hf21_0, hf21_1⟩ := hB
                        rw [ht] at hP1
                        obtain ⟨hPn, hDn⟩ := va_join (wr := [(mL, .inl (cI, 512, .inl eL)), (oM, .inr (12, [.ref mT, .int zt, .ref mS, .ref mX, .int zp, .int zf, .ref mL, .ref mB, .ref mD, .ref m1, .ref m2, .int zh, .ref mR, .int zr, .ref x1, .ref x2, .ref x3, .int zc, .ref mH, .int zy, .int za, .int zb, .int zs, .int zq, .int zw, .int ze, .ref mY, .int zn, .ref mE, .int zm, .int zl, .ref mW, .int zk, .ref mO, .int x, .ref y1, .ref y2, .ref y3, .ref y4, .ref mZ])), (mY, .inl (cI, 2600, .inl eY))]) (w1 := []) hP hD [] [0, 1, 2] rfl rfl (by decide +kernel) (by decide +kernel) hk1 hFc hP1 hD1
                        clear hP hD hS hPc hDc hFc hk1 hz1 hvm ht hP1 hD1
                        generalize H1 = H at hPn hSn ⊢
                        have hP : va_P (dC, dI) vwCl [(mL, .inl (cI, 512, .inl eL)), (oM, .inr (12, [.ref mT, .int zt, .ref mS, .ref mX, .int zp, .int zf, .ref mL, .ref mB, .ref mD, .ref m1, .ref m2, .int zh, .ref mR, .int zr, .ref x1, .ref x2, .ref x3, .int zc, .ref mH, .int zy, .int za, .int zb, .int zs, .int zq, .int zw, .int ze, .ref mY, .int zn, .ref mE, .int zm, .int zl, .ref mW, .int zk, .ref mO, .int x, .ref y1, .ref y2, .ref y3, .ref y4, .ref mZ])), (mY, .inl (cI, 2600, .inl eY))] H := hPn
                        have hD : va_D A [(mL, .inl (cI, 512, .inl eL)), (oM, .inr (12, [.ref mT, .int zt, .ref mS, .ref mX, .int zp, .int zf, .ref mL, .ref mB, .ref mD, .ref m1, .ref m2, .int zh, .ref mR, .int zr, .ref x1, .ref x2, .ref x3, .int zc, .ref mH, .int zy, .int za, .int zb, .int zs, .int zq, .int zw, .int ze, .ref mY, .int zn, .ref mE, .int zm, .int zl, .ref mW, .int zk, .ref mO, .int x, .ref y1, .ref y2, .ref y3, .ref y4, .ref mZ])), (mY, .inl (cI, 2600, .inl eY))] := hDn
                        have hS := hSn
                        clear hPn hDn hSn
                        refine lv_if_eq (tgt := 407) hx hb dX12_readAt_386 (by decide) (fun c_22 => ?_) (fun c_22 => ?_)
                        · have tc_22 : r_21.toInt = 0 := v_eq c_22
                          refine lv_iconst (v := 0) hx hb dX12_readAt_407 (by decide) ?_
                          refine lv_istore (lv' := [(6, .int 0), (5, .int x), (4, .int qq), (3, .int x_1), (0, .ref oM), (1, .int cd), (2, .int q)]) hx hb dX12_readAt_408 hl (by decide) rfl (fun ls hl => ?_)
                          refine lv_iload hx hb dX12_readAt_410 (lv_at hl 0 rfl) ?_
                          refine lv_if_eq (tgt := 424) hx hb dX12_readAt_412 (by decide) (fun c_23 => ?_) (fun c_23 => absurd c_23 (by decide))
                          refine lv_iconst (v := 0) hx hb dX12_readAt_424 (by decide) ?_
                          have hP9 := hP.sub (ws' := [(oM, .inr (12, [.ref mT, .int zt, .ref mS, .ref mX, .int zp, .int zf, .ref mL, .ref mB, .ref mD, .ref m1, .ref m2, .int zh, .ref mR, .int zr, .ref x1, .ref x2, .ref x3, .int zc, .ref mH, .int zy, .int za, .int zb, .int zs, .int zq, .int zw, .int ze, .ref mY, .int zn, .ref mE, .int zm, .int zl, .ref mW, .int zk, .ref mO, .int x, .ref y1, .ref y2, .ref y3, .ref y4, .ref mZ])), (mY, .inl (cI, 2600, .inl eY)), (mL, .inl (cI, 512, .inl eL))]) [1, 2, 0] rfl
                          have hD9 := hD.sub (ws' := [(oM, .inr (12, [.ref mT, .int zt, .ref mS, .ref mX, .int zp, .int zf, .ref mL, .ref mB, .ref mD, .ref m1, .ref m2, .int zh, .ref mR, .int zr, .ref x1, .ref x2, .ref x3, .int zc, .ref mH, .int zy, .int za, .int zb, .int zs, .int zq, .int zw, .int ze, .ref mY, .int zn, .ref mE, .int zm, .int zl, .ref mW, .int zk, .ref mO, .int x, .ref y1, .ref y2, .ref y3, .ref y4, .ref mZ])), (mY, .inl (cI, 2600, .inl eY)), (mL, .inl (cI, 512, .inl eL))]) [1, 2, 0] (by decide +kernel) rfl
                          rw [hQQ]
                          exact W.iret (v := 0) hx hb hr (fun t ht hW => ⟨⟨0, 0, rfl, rfl, ⟨x, by rw [ht]; exact hP9, hD9, by decide, by show 0 = 0 ∨ (0 ≤ x.toInt ∧ x.toInt ≤ 65535); omega⟩⟩, hS.F ht⟩) hS.2.2 dX12_readAt_425
                        · have tc_22 : ¬ r_21.toInt = 0 := v_ne c_22
                          refine lv_iload hx hb dX12_readAt_389 (lv_at hl 0 rfl) ?_
                          refine lv_bipush (v := 38) hx hb dX12_readAt_391 (by decide) ?_
                          refine lv_icmp_eq (tgt := 403) hx hb dX12_readAt_393 (by decide) (fun c_24 => ?_) (fun c_24 => ?_)
                          · have tc_24 : x.toInt = 38 := v_eq c_24
                            refine lv_iconst (v := 1) hx hb dX12_readAt_403 (by decide) ?_
                            refine lv_goto (tgt := 408) hx hb dX12_readAt_404 (by decide) ?_
                            refine lv_istore (lv' := [(6, .int 1), (5, .int x), (4, .int qq), (3, .int x_1), (0, .ref oM), (1, .int cd), (2, .int q)]) hx hb dX12_readAt_408 hl (by decide) rfl (fun ls hl => ?_)
                            refine lv_iload hx hb dX12_readAt_410 (lv_at hl 0 rfl) ?_
                            refine lv_if_eq (tgt := 424) hx hb dX12_readAt_412 (by decide) (fun c_25 => absurd c_25 (by decide)) (fun c_25 => ?_)
                            refine lv_iload hx hb dX12_readAt_415 (lv_at hl 2 rfl) ?_
                            refine lv_iload_n hx hb dX12_readAt_417 rfl (lv_at hl 6 rfl) ?_
                            refine lv_isub hx hb dX12_readAt_418 ?_
                            refine lv_topi (fun x_26 ex_26 => ?_)
                            have tx_26 : x_26.toInt = qq.toInt - q.toInt := v_sub ex_26 (by show -2147483648 ≤ qq.toInt - q.toInt; omega) (by show qq.toInt - q.toInt < 2147483648; omega)
                            refine lv_iconst (v := 1) hx hb dX12_readAt_419 (by decide) ?_
                            refine lv_iadd hx hb dX12_readAt_420 ?_
                            refine lv_topi (fun x_27 ex_27 => ?_)
                            have tx_27 : x_27.toInt = x_26.toInt + 1 := v_add ex_27 (by show -2147483648 ≤ x_26.toInt + 1; omega) (by show x_26.toInt + 1 < 2147483648; omega)
                            refine lv_goto (tgt := 425) hx hb dX12_readAt_421 (by decide) ?_
                            have hP9 := hP.sub (ws' := [(oM, .inr (12, [.ref mT, .int zt, .ref mS, .ref mX, .int zp, .int zf, .ref mL, .ref mB, .ref mD, .ref m1, .ref m2, .int zh, .ref mR, .int zr, .ref x1, .ref x2, .ref x3, .int zc, .ref mH, .int zy, .int za, .int zb, .int zs, .int zq, .int zw, .int ze, .ref mY, .int zn, .ref mE, .int zm, .int zl, .ref mW, .int zk, .ref mO, .int x, .ref y1, .ref y2, .ref y3, .ref y4, .ref mZ])), (mY, .inl (cI, 2600, .inl eY)), (mL, .inl (cI, 512, .inl eL))]) [1, 2, 0] rfl
                            have hD9 := hD.sub (ws' := [(oM, .inr (12, [.ref mT, .int zt, .ref mS, .ref mX, .int zp, .int zf, .ref mL, .ref mB, .ref mD, .ref m1, .ref m2, .int zh, .ref mR, .int zr, .ref x1, .ref x2, .ref x3, .int zc, .ref mH, .int zy, .int za, .int zb, .int zs, .int zq, .int zw, .int ze, .ref mY, .int zn, .ref mE, .int zm, .int zl, .ref mW, .int zk, .ref mO, .int x, .ref y1, .ref y2, .ref y3, .ref y4, .ref mZ])), (mY, .inl (cI, 2600, .inl eY)), (mL, .inl (cI, 512, .inl eL))]) [1, 2, 0] (by decide +kernel) rfl
                            rw [hQQ]
                            exact W.iret (v := x_27) hx hb hr (fun t ht hW => ⟨⟨x_27, x_27, rfl, rfl, ⟨x, by rw [ht]; exact hP9, hD9, by omega, by show x_27.toInt = 0 ∨ (0 ≤ x.toInt ∧ x.toInt ≤ 65535); omega⟩⟩, hS.F ht⟩) hS.2.2 dX12_readAt_425
                          · have tc_24 : ¬ x.toInt = 38 := v_ne c_24
                            refine lv_iload hx hb dX12_readAt_396 (lv_at hl 0 rfl) ?_
                            refine lv_bipush (v := 127) hx hb dX12_readAt_398 (by decide) ?_
                            refine lv_icmp_le (tgt := 407) hx hb dX12_readAt_400 (by decide) (fun c_28 => ?_) (fun c_28 => ?_)
                            · have tc_28 : x.toInt ≤ 127 := v_le c_28
                              refine lv_iconst (v := 0) hx hb dX12_readAt_407 (by decide) ?_
                              refine lv_istore (lv' := [(6, .int 0), (5, .int x), (4, .int qq), (3, .int x_1), (0, .ref oM), (1, .int cd), (2, .int q)]) hx hb dX12_readAt_408 hl (by decide) rfl (fun ls hl => ?_)
                              refine lv_iload hx hb dX12_readAt_410 (lv_at hl 0 rfl) ?_
                              refine lv_if_eq (tgt := 424) hx hb dX12_readAt_412 (by decide) (fun c_29 => ?_) (fun c_29 => absurd c_29 (by decide))
                              refine lv_iconst (v := 0) hx hb dX12_readAt_424 (by decide) ?_
                              have hP9 := hP.sub (ws' := [(oM, .inr (12, [.ref mT, .int zt, .ref mS, .ref mX, .int zp, .int zf, .ref mL, .ref mB, .ref mD, .ref m1, .ref m2, .int zh, .ref mR, .int zr, .ref x1, .ref x2, .ref x3, .int zc, .ref mH, .int zy, .int za, .int zb, .int zs, .int zq, .int zw, .int ze, .ref mY, .int zn, .ref mE, .int zm, .int zl, .ref mW, .int zk, .ref mO, .int x, .ref y1, .ref y2, .ref y3, .ref y4, .ref mZ])), (mY, .inl (cI, 2600, .inl eY)), (mL, .inl (cI, 512, .inl eL))]) [1, 2, 0] rfl
                              have hD9 := hD.sub (ws' := [(oM, .inr (12, [.ref mT, .int zt, .ref mS, .ref mX, .int zp, .int zf, .ref mL, .ref mB, .ref mD, .ref m1, .ref m2, .int zh, .ref mR, .int zr, .ref x1, .ref x2, .ref x3, .int zc, .ref mH, .int zy, .int za, .int zb, .int zs, .int zq, .int zw, .int ze, .ref mY, .int zn, .ref mE, .int zm, .int zl, .ref mW, .int zk, .ref mO, .int x, .ref y1, .ref y2, .ref y3, .ref y4, .ref mZ])), (mY, .inl (cI, 2600, .inl eY)), (mL, .inl (cI, 512, .inl eL))]) [1, 2, 0] (by decide +kernel) rfl
                              rw [hQQ]
                              exact W.iret (v := 0) hx hb hr (fun t ht hW => ⟨⟨0, 0, rfl, rfl, ⟨x, by rw [ht]; exact hP9, hD9, by decide, by show 0 = 0 ∨ (0 ≤ x.toInt ∧ x.toInt ≤ 65535); omega⟩⟩, hS.F ht⟩) hS.2.2 dX12_readAt_425
                            · have tc_28 : 127 < x.toInt := v_nle c_28
                              refine lv_iconst (v := 1) hx hb dX12_readAt_403 (by decide) ?_
                              refine lv_goto (tgt := 408) hx hb dX12_readAt_404 (by decide) ?_
                              refine lv_istore (lv' := [(6, .int 1), (5, .int x), (4, .int qq), (3, .int x_1), (0, .ref oM), (1, .int cd), (2, .int q)]) hx hb dX12_readAt_408 hl (by decide) rfl (fun ls hl => ?_)
                              refine lv_iload hx hb dX12_readAt_410 (lv_at hl 0 rfl) ?_
                              refine lv_if_eq (tgt := 424) hx hb dX12_readAt_412 (by decide) (fun c_30 => absurd c_30 (by decide)) (fun c_30 => ?_)
                              refine lv_iload hx hb dX12_readAt_415 (lv_at hl 2 rfl) ?_
                              refine lv_iload_n hx hb dX12_readAt_417 rfl (lv_at hl 6 rfl) ?_
                              refine lv_isub hx hb dX12_readAt_418 ?_
                              refine lv_topi (fun x_31 ex_31 => ?_)
                              have tx_31 : x_31.toInt = qq.toInt - q.toInt := v_sub ex_31 (by show -2147483648 ≤ qq.toInt - q.toInt; omega) (by show qq.toInt - q.toInt < 2147483648; omega)
                              refine lv_iconst (v := 1) hx hb dX12_readAt_419 (by decide) ?_
                              refine lv_iadd hx hb dX12_readAt_420 ?_
                              refine lv_topi (fun x_32 ex_32 => ?_)
                              have tx_32 : x_32.toInt = x_31.toInt + 1 := v_add ex_32 (by show -2147483648 ≤ x_31.toInt + 1; omega) (by show x_31.toInt + 1 < 2147483648; omega)
                              refine lv_goto (tgt := 425) hx hb dX12_readAt_421 (by decide) ?_
                              have hP9 := hP.sub (ws' := [(oM, .inr (12, [.ref mT, .int zt, .ref mS, .ref mX, .int zp, .int zf, .ref mL, .ref mB, .ref mD, .ref m1, .ref m2, .int zh, .ref mR, .int zr, .ref x1, .ref x2, .ref x3, .int zc, .ref mH, .int zy, .int za, .int zb, .int zs, .int zq, .int zw, .int ze, .ref mY, .int zn, .ref mE, .int zm, .int zl, .ref mW, .int zk, .ref mO, .int x, .ref y1, .ref y2, .ref y3, .ref y4, .ref mZ])), (mY, .inl (cI, 2600, .inl eY)), (mL, .inl (cI, 512, .inl eL))]) [1, 2, 0] rfl
                              have hD9 := hD.sub (ws' := [(oM, .inr (12, [.ref mT, .int zt, .ref mS, .ref mX, .int zp, .int zf, .ref mL, .ref mB, .ref mD, .ref m1, .ref m2, .int zh, .ref mR, .int zr, .ref x1, .ref x2, .ref x3, .int zc, .ref mH, .int zy, .int za, .int zb, .int zs, .int zq, .int zw, .int ze, .ref mY, .int zn, .ref mE, .int zm, .int zl, .ref mW, .int zk, .ref mO, .int x, .ref y1, .ref y2, .ref y3, .ref y4, .ref mZ])), (mY, .inl (cI, 2600, .inl eY)), (mL, .inl (cI, 512, .inl eL))]) [1, 2, 0] (by decide +kernel) rfl
                              rw [hQQ]
                              exact W.iret (v := x_32) hx hb hr (fun t ht hW => ⟨⟨x_32, x_32, rfl, rfl, ⟨x, by rw [ht]; exact hP9, hD9, by omega, by show x_32.toInt = 0 ∨ (0 ≤ x.toInt ∧ x.toInt ≤ 65535); omega⟩⟩, hS.F ht⟩) hS.2.2 dX12_readAt_425
                  · have tc_14 : 48 ≤ r_13.toInt := v_nlt c_14
                    refine lv_aload_n hx hb dX12_readAt_297 rfl (lv_at hl 3 rfl) ?_
                    refine lv_iload hx hb dX12_readAt_298 (lv_at hl 1 rfl) ?_
                    have hPc := hP.sub (ws' := [(oM, .inr (12, [.ref mT, .int zt, .ref mS, .ref mX, .int zp, .int zf, .ref mL, .ref mB, .ref mD, .ref m1, .ref m2, .int zh, .ref mR, .int zr, .ref x1, .ref x2, .ref x3, .int zc, .ref mH, .int zy, .int za, .int zb, .int zs, .int zq, .int zw, .int ze, .ref mY, .int zn, .ref mE, .int zm, .int zl, .ref mW, .int zk, .ref mO, .int x_1, .ref y1, .ref y2, .ref y3, .ref y4, .ref mZ])), (mY, .inl (cI, 2600, .inl eY))]) [1, 2] rfl
                    have hDc := hD.sub (ws' := [(oM, .inr (12, [.ref mT, .int zt, .ref mS, .ref mX, .int zp, .int zf, .ref mL, .ref mB, .ref mD, .ref m1, .ref m2, .int zh, .ref mR, .int zr, .ref x1, .ref x2, .ref x3, .int zc, .ref mH, .int zy, .int za, .int zb, .int zs, .int zq, .int zw, .int ze, .ref mY, .int zn, .ref mE, .int zm, .int zl, .ref mW, .int zk, .ref mO, .int x_1, .ref y1, .ref y2, .ref y3, .ref y4, .ref mZ])), (mY, .inl (cI, 2600, .inl eY))]) [1, 2] (by decide +kernel) rfl
                    have hFc := va_free (wc := [(oM, .inr (12, [.ref mT, .int zt, .ref mS, .ref mX, .int zp, .int zf, .ref mL, .ref mB, .ref mD, .ref m1, .ref m2, .int zh, .ref mR, .int zr, .ref x1, .ref x2, .ref x3, .int zc, .ref mH, .int zy, .int za, .int zb, .int zs, .int zq, .int zw, .int ze, .ref mY, .int zn, .ref mE, .int zm, .int zl, .ref mW, .int zk, .ref mO, .int x_1, .ref y1, .ref y2, .ref y3, .ref y4, .ref mZ])), (mY, .inl (cI, 2600, .inl eY))]) hD hS hA [1, 2] rfl
                    refine va_calli (va_runV (As := [.int qq]) (rest := []) ⟨hx, hb, hml, hown, hts⟩ (m_X12_byteAt l dC dI cI cS H.size oM mT mS mX mL mB mD m1 m2 mR x1 x2 x3 mH mY mE mW mO y1 y2 y3 y4 mZ zt zp zf zh zr zc zy za zb zs zq zw ze zn zm zl zk x_1 eY qq (g_zt) (g_zp) (g_zf) (g_zh) (g_zr) (g_zc) (g_zy) (g_za) (g_zb) (g_zs) (g_zq) (g_zn) (g_zm) (g_zk) (g_eY) (by omega)) (cwV 1 hts gX12_readAt_X12_byteAt rfl rfl rfl (by decide +kernel) ⟨Nat.le_of_ble_eq_true rfl, Nat.le_of_ble_eq_true rfl⟩) ⟨fun a U g mk q => by obtain ⟨q0, q1, qP, qK, qD⟩ := q; exact ⟨q0, q1, qP, va_K.moved (u := U) (U := U.calling g mk a) (Vm.Alike.refl U.vm) qK, qD⟩, va_recv hK hPc (ci := 12) (q0 := 0) rfl rfl, fun U hU hW => ⟨rfl, by rw [hU], by rw [hU]; exact hPc, va_K.moved hW.alike hK, hDc.weaken (fun _ _ _ _ => trivial)⟩⟩ rfl rfl hl.1 rfl (lv_room (Nat.le_of_ble_eq_true rfl)) dX12_readAt_300 ⟨Nat.le_of_ble_eq_true rfl, Nat.le_of_ble_eq_true rfl⟩) hS (fun q _ h => hFc q h) hFc (fun r_33 u t H1 locs ht hvm hw hB hz1 hk1 hSn => ?_)
                    subst hw
                    obtain ⟨hP1, hD1, hf33_0, hf33_1⟩ := hB
                    rw [ht] at hP1
                    obtain ⟨hPn, hDn⟩ := va_join (wr := [(mL, .inl (cI, 512, .inl eL))]) (w1 := [(oM, .inr (12, [.ref mT, .int zt, .ref mS, .ref mX, .int zp, .int zf, .ref mL, .ref mB, .ref mD, .ref m1, .ref m2, .int zh, .ref mR, .int zr, .ref x1, .ref x2, .ref x3, .int zc, .ref mH, .int zy, .int za, .int zb, .int zs, .int zq, .int zw, .int ze, .ref mY, .int zn, .ref mE, .int zm, .int zl, .ref mW, .int zk, .ref mO, .int x_1, .ref y1, .ref y2, .ref y3, .ref y4, .ref mZ])), (mY, .inl (cI, 2600, .inl eY))]) hP hD [1, 2] [0] rfl rfl (by decide +kernel) (by decide +kernel) hk1 hFc hP1 hD1
                    clear hP hD hS hPc hDc hFc hk1 hz1 hvm ht hP1 hD1
                    generalize H1 = H at hPn hSn ⊢
                    have hP : va_P (dC, dI) vwCl [(mL, .inl (cI, 512, .inl eL)), (oM, .inr (12, [.ref mT, .int zt, .ref mS, .ref mX, .int zp, .int zf, .ref mL, .ref mB, .ref mD, .ref m1, .ref m2, .int zh, .ref mR, .int zr, .ref x1, .ref x2, .ref x3, .int zc, .ref mH, .int zy, .int za, .int zb, .int zs, .int zq, .int zw, .int ze, .ref mY, .int zn, .ref mE, .int zm, .int zl, .ref mW, .int zk, .ref mO, .int x_1, .ref y1, .ref y2, .ref y3, .ref y4, .ref mZ])), (mY, .inl (cI, 2600, .inl eY))] H := hPn
                    have hD : va_D A [(mL, .inl (cI, 512, .inl eL)), (oM, .inr (12, [.ref mT, .int zt, .ref mS, .ref mX, .int zp, .int zf, .ref mL, .ref mB, .ref mD, .ref m1, .ref m2, .int zh, .ref mR, .int zr, .ref x1, .ref x2, .ref x3, .int zc, .ref mH, .int zy, .int za, .int zb, .int zs, .int zq, .int zw, .int ze, .ref mY, .int zn, .ref mE, .int zm, .int zl, .ref mW, .int zk, .ref mO, .int x_1, .ref y1, .ref y2, .ref y3, .ref y4, .ref mZ])), (mY, .inl (cI, 2600, .inl eY))] := hDn
                    have hS := hSn
                    clear hPn hDn hSn
                    refine lv_bipush (v := 57) hx hb dX12_readAt_303 (by decide) ?_
                    refine lv_icmp_gt (tgt := 356) hx hb dX12_readAt_305 (by decide) (fun c_34 => ?_) (fun c_34 => ?_)
                    · have tc_34 : 57 < r_33.toInt := v_lt c_34
                      refine lv_aload_n hx hb dX12_readAt_356 rfl (lv_at hl 3 rfl) ?_
                      refine lv_iload hx hb dX12_readAt_357 (lv_at hl 0 rfl) ?_
                      refine va_put (D := (dC, dI)) (ci := 12) (v := .int x) (ty := .int) (C := RX12) (T := TX12) (N := 40) hx hb hts in_X12 tyX12 tyX12_ok nmX12 hown hK hP hD hS 1 rfl rfl 34 (by decide) (hts (.fieldLink RX12 105 "TextMenderModel" "readLetter" "I") (List.mem_of_getElem? (i := 2) rfl)) (fun _ h9 => h9) rfl (by decide +kernel) rfl rfl (Nat.le_of_ble_eq_true rfl) dX12_readAt_359 (fun H locs hPn hDn hSn => ?_)
                      clear hP hD hS
                      have hP : va_P (dC, dI) vwCl [(mL, .inl (cI, 512, .inl eL)), (oM, .inr (12, [.ref mT, .int zt, .ref mS, .ref mX, .int zp, .int zf, .ref mL, .ref mB, .ref mD, .ref m1, .ref m2, .int zh, .ref mR, .int zr, .ref x1, .ref x2, .ref x3, .int zc, .ref mH, .int zy, .int za, .int zb, .int zs, .int zq, .int zw, .int ze, .ref mY, .int zn, .ref mE, .int zm, .int zl, .ref mW, .int zk, .ref mO, .int x, .ref y1, .ref y2, .ref y3, .ref y4, .ref mZ])), (mY, .inl (cI, 2600, .inl eY))] H := hPn
                      have hD : va_D A [(mL, .inl (cI, 512, .inl eL)), (oM, .inr (12, [.ref mT, .int zt, .ref mS, .ref mX, .int zp, .int zf, .ref mL, .ref mB, .ref mD, .ref m1, .ref m2, .int zh, .ref mR, .int zr, .ref x1, .ref x2, .ref x3, .int zc, .ref mH, .int zy, .int za, .int zb, .int zs, .int zq, .int zw, .int ze, .ref mY, .int zn, .ref mE, .int zm, .int zl, .ref mW, .int zk, .ref mO, .int x, .ref y1, .ref y2, .ref y3, .ref y4, .ref mZ])), (mY, .inl (cI, 2600, .inl eY))] := hDn
                      have hS := hSn
                      clear hPn hDn hSn
                      refine lv_iload hx hb dX12_readAt_362 (lv_at hl 1 rfl) ?_
                      refine lv_iload_n hx hb dX12_readAt_364 rfl (lv_at hl 5 rfl) ?_
                      refine lv_iconst (v := 2) hx hb dX12_readAt_365 (by decide) ?_
                      refine lv_iadd hx hb dX12_readAt_366 ?_
                      refine lv_topi (fun x_35 ex_35 => ?_)
                      have tx_35 : x_35.toInt = q.toInt + 2 := v_add ex_35 (by show -2147483648 ≤ q.toInt + 2; omega) (by show q.toInt + 2 < 2147483648; omega)
                      refine lv_icmp_le (tgt := 407) hx hb dX12_readAt_367 (by decide) (fun c_36 => ?_) (fun c_36 => ?_)
                      · have tc_36 : qq.toInt ≤ x_35.toInt := v_le c_36
                        refine lv_iconst (v := 0) hx hb dX12_readAt_407 (by decide) ?_
                        refine lv_istore (lv' := [(6, .int 0), (5, .int x), (4, .int qq), (3, .int x_1), (0, .ref oM), (1, .int cd), (2, .int q)]) hx hb dX12_readAt_408 hl (by decide) rfl (fun ls hl => ?_)
                        refine lv_iload hx hb dX12_readAt_410 (lv_at hl 0 rfl) ?_
                        refine lv_if_eq (tgt := 424) hx hb dX12_readAt_412 (by decide) (fun c_37 => ?_) (fun c_37 => absurd c_37 (by decide))
                        refine lv_iconst (v := 0) hx hb dX12_readAt_424 (by decide) ?_
                        have hP9 := hP.sub (ws' := [(oM, .inr (12, [.ref mT, .int zt, .ref mS, .ref mX, .int zp, .int zf, .ref mL, .ref mB, .ref mD, .ref m1, .ref m2, .int zh, .ref mR, .int zr, .ref x1, .ref x2, .ref x3, .int zc, .ref mH, .int zy, .int za, .int zb, .int zs, .int zq, .int zw, .int ze, .ref mY, .int zn, .ref mE, .int zm, .int zl, .ref mW, .int zk, .ref mO, .int x, .ref y1, .ref y2, .ref y3, .ref y4, .ref mZ])), (mY, .inl (cI, 2600, .inl eY)), (mL, .inl (cI, 512, .inl eL))]) [1, 2, 0] rfl
                        have hD9 := hD.sub (ws' := [(oM, .inr (12, [.ref mT, .int zt, .ref mS, .ref mX, .int zp, .int zf, .ref mL, .ref mB, .ref mD, .ref m1, .ref m2, .int zh, .ref mR, .int zr, .ref x1, .ref x2, .ref x3, .int zc, .ref mH, .int zy, .int za, .int zb, .int zs, .int zq, .int zw, .int ze, .ref mY, .int zn, .ref mE, .int zm, .int zl, .ref mW, .int zk, .ref mO, .int x, .ref y1, .ref y2, .ref y3, .ref y4, .ref mZ])), (mY, .inl (cI, 2600, .inl eY)), (mL, .inl (cI, 512, .inl eL))]) [1, 2, 0] (by decide +kernel) rfl
                        rw [hQQ]
                        exact W.iret (v := 0) hx hb hr (fun t ht hW => ⟨⟨0, 0, rfl, rfl, ⟨x, by rw [ht]; exact hP9, hD9, by decide, by show 0 = 0 ∨ (0 ≤ x.toInt ∧ x.toInt ≤ 65535); omega⟩⟩, hS.F ht⟩) hS.2.2 dX12_readAt_425
                      · have tc_36 : x_35.toInt < qq.toInt := v_nle c_36
                        refine lv_aload_n hx hb dX12_readAt_370 rfl (lv_at hl 3 rfl) ?_
                        refine lv_iload hx hb dX12_readAt_371 (lv_at hl 1 rfl) ?_
                        have hPc := hP.sub (ws' := [(oM, .inr (12, [.ref mT, .int zt, .ref mS, .ref mX, .int zp, .int zf, .ref mL, .ref mB, .ref mD, .ref m1, .ref m2, .int zh, .ref mR, .int zr, .ref x1, .ref x2, .ref x3, .int zc, .ref mH, .int zy, .int za, .int zb, .int zs, .int zq, .int zw, .int ze, .ref mY, .int zn, .ref mE, .int zm, .int zl, .ref mW, .int zk, .ref mO, .int x, .ref y1, .ref y2, .ref y3, .ref y4, .ref mZ])), (mY, .inl (cI, 2600, .inl eY))]) [1, 2] rfl
                        have hDc := hD.sub (ws' := [(oM, .inr (12, [.ref mT, .int zt, .ref mS, .ref mX, .int zp, .int zf, .ref mL, .ref mB, .ref mD, .ref m1, .ref m2, .int zh, .ref mR, .int zr, .ref x1, .ref x2, .ref x3, .int zc, .ref mH, .int zy, .int za, .int zb, .int zs, .int zq, .int zw, .int ze, .ref mY, .int zn, .ref mE, .int zm, .int zl, .ref mW, .int zk, .ref mO, .int x, .ref y1, .ref y2, .ref y3, .ref y4, .ref mZ])), (mY, .inl (cI, 2600, .inl eY))]) [1, 2] (by decide +kernel) rfl
                        have hFc := va_free (wc := [(oM, .inr (12, [.ref mT, .int zt, .ref mS, .ref mX, .int zp, .int zf, .ref mL, .ref mB, .ref mD, .ref m1, .ref m2, .int zh, .ref mR, .int zr, .ref x1, .ref x2, .ref x3, .int zc, .ref mH, .int zy, .int za, .int zb, .int zs, .int zq, .int zw, .int ze, .ref mY, .int zn, .ref mE, .int zm, .int zl, .ref mW, .int zk, .ref mO, .int x, .ref y1, .ref y2, .ref y3, .ref y4, .ref mZ])), (mY, .inl (cI, 2600, .inl eY))]) hD hS hA [1, 2] rfl
                        refine va_calli (va_runV (As := [.int qq]) (rest := []) ⟨hx, hb, hml, hown, hts⟩ (m_X12_byteAt l dC dI cI cS H.size oM mT mS mX mL mB mD m1 m2 mR x1 x2 x3 mH mY mE mW mO y1 y2 y3 y4 mZ zt zp zf zh zr zc zy za zb zs zq zw ze zn zm zl zk x eY qq (g_zt) (g_zp) (g_zf) (g_zh) (g_zr) (g_zc) (g_zy) (g_za) (g_zb) (g_zs) (g_zq) (g_zn) (g_zm) (g_zk) (g_eY) (by omega)) (cwV 1 hts gX12_readAt_X12_byteAt rfl rfl rfl (by decide +kernel) ⟨Nat.le_of_ble_eq_true rfl, Nat.le_of_ble_eq_true rfl⟩) ⟨fun a U g mk q => by obtain ⟨q0, q1, qP, qK, qD⟩ := q; exact ⟨q0, q1, qP, va_K.moved (u := U) (U := U.calling g mk a) (Vm.Alike.refl U.vm) qK, qD⟩, va_recv hK hPc (ci := 12) (q0 := 0) rfl rfl, fun U hU hW => ⟨rfl, by rw [hU], by rw [hU]; exact hPc, va_K.moved hW.alike hK, hDc.weaken (fun _ _ _ _ => trivial)⟩⟩ rfl rfl hl.1 rfl (lv_room (Nat.le_of_ble_eq_true rfl)) dX12_readAt_373 ⟨Nat.le_of_ble_eq_true rfl, Nat.le_of_ble_eq_true rfl⟩) hS (fun q _ h => hFc q h) hFc (fun r_38 u t H1 locs ht hvm hw hB hz1 hk1 hSn => ?_)
                        subst hw
                        obtain ⟨hP1, hD1, hf38_0, hf38_1⟩ := hB
                        rw [ht] at hP1
                        obtain ⟨hPn, hDn⟩ := va_join (wr := [(mL, .inl (cI, 512, .inl eL))]) (w1 := [(oM, .inr (12, [.ref mT, .int zt, .ref mS, .ref mX, .int zp, .int zf, .ref mL, .ref mB, .ref mD, .ref m1, .ref m2, .int zh, .ref mR, .int zr, .ref x1, .ref x2, .ref x3, .int zc, .ref mH, .int zy, .int za, .int zb, .int zs, .int zq, .int zw, .int ze, .ref mY, .int zn, .ref mE, .int zm, .int zl, .ref mW, .int zk, .ref mO, .int x, .ref y1, .ref y2, .ref y3, .ref y4, .ref mZ])), (mY, .inl (cI, 2600, .inl eY))]) hP hD [1, 2] [0] rfl rfl (by decide +kernel) (by decide +kernel) hk1 hFc hP1 hD1
                        clear hP hD hS hPc hDc hFc hk1 hz1 hvm ht hP1 hD1
                        generalize H1 = H at hPn hSn ⊢
                        have hP : va_P (dC, dI) vwCl [(mL, .inl (cI, 512, .inl eL)), (oM, .inr (12, [.ref mT, .int zt, .ref mS, .ref mX, .int zp, .int zf, .ref mL, .ref mB, .ref mD, .ref m1, .ref m2, .int zh, .ref mR, .int zr, .ref x1, .ref x2, .ref x3, .int zc, .ref mH, .int zy, .int za, .int zb, .int zs, .int zq, .int zw, .int ze, .ref mY, .int zn, .ref mE, .int zm, .int zl, .ref mW, .int zk, .ref mO, .int x, .ref y1, .ref y2, .ref y3, .ref y4, .ref mZ])), (mY, .inl (cI, 2600, .inl eY))] H := hPn
                        have hD : va_D A [(mL, .inl (cI, 512, .inl eL)), (oM, .inr (12, [.ref mT, .int zt, .ref mS, .ref mX, .int zp, .int zf, .ref mL, .ref mB, .ref mD, .ref m1, .ref m2, .int zh, .ref mR, .int zr, .ref x1, .ref x2, .ref x3, .int zc, .ref mH, .int zy, .int za, .int zb, .int zs, .int zq, .int zw, .int ze, .ref mY, .int zn, .ref mE, .int zm, .int zl, .ref mW, .int zk, .ref mO, .int x, .ref y1, .ref y2, .ref y3, .ref y4, .ref mZ])), (mY, .inl (cI, 2600, .inl eY))] := hDn
                        have hS := hSn
                        clear hPn hDn hSn
                        refine lv_bipush (v := 59) hx hb dX12_readAt_376 (by decide) ?_
                        refine lv_icmp_ne (tgt := 407) hx hb dX12_readAt_378 (by decide) (fun c_39 => ?_) (fun c_39 => ?_)
                        · have tc_39 : ¬ r_38.toInt = 59 := v_ne c_39
                          refine lv_iconst (v := 0) hx hb dX12_readAt_407 (by decide) ?_
                          refine lv_istore (lv' := [(6, .int 0), (5, .int x), (4, .int qq), (3, .int x_1), (0, .ref oM), (1, .int cd), (2, .int q)]) hx hb dX12_readAt_408 hl (by decide) rfl (fun ls hl => ?_)
                          refine lv_iload hx hb dX12_readAt_410 (lv_at hl 0 rfl) ?_
                          refine lv_if_eq (tgt := 424) hx hb dX12_readAt_412 (by decide) (fun c_40 => ?_) (fun c_40 => absurd c_40 (by decide))
                          refine lv_iconst (v := 0) hx hb dX12_readAt_424 (by decide) ?_
                          have hP9 := hP.sub (ws' := [(oM, .inr (12, [.ref mT, .int zt, .ref mS, .ref mX, .int zp, .int zf, .ref mL, .ref mB, .ref mD, .ref m1, .ref m2, .int zh, .ref mR, .int zr, .ref x1, .ref x2, .ref x3, .int zc, .ref mH, .int zy, .int za, .int zb, .int zs, .int zq, .int zw, .int ze, .ref mY, .int zn, .ref mE, .int zm, .int zl, .ref mW, .int zk, .ref mO, .int x, .ref y1, .ref y2, .ref y3, .ref y4, .ref mZ])), (mY, .inl (cI, 2600, .inl eY)), (mL, .inl (cI, 512, .inl eL))]) [1, 2, 0] rfl
                          have hD9 := hD.sub (ws' := [(oM, .inr (12, [.ref mT, .int zt, .ref mS, .ref mX, .int zp, .int zf, .ref mL, .ref mB, .ref mD, .ref m1, .ref m2, .int zh, .ref mR, .int zr, .ref x1, .ref x2, .ref x3, .int zc, .ref mH, .int zy, .int za, .int zb, .int zs, .int zq, .int zw, .int ze, .ref mY, .int zn, .ref mE, .int zm, .int zl, .ref mW, .int zk, .ref mO, .int x, .ref y1, .ref y2, .ref y3, .ref y4, .ref mZ])), (mY, .inl (cI, 2600, .inl eY)), (mL, .inl (cI, 512, .inl eL))]) [1, 2, 0] (by decide +kernel) rfl
                          rw [hQQ]
                          exact W.iret (v := 0) hx hb hr (fun t ht hW => ⟨⟨0, 0, rfl, rfl, ⟨x, by rw [ht]; exact hP9, hD9, by decide, by show 0 = 0 ∨ (0 ≤ x.toInt ∧ x.toInt ≤ 65535); omega⟩⟩, hS.F ht⟩) hS.2.2 dX12_readAt_425
                        · have tc_39 : r_38.toInt = 59 := v_eq c_39
                          refine lv_iload hx hb dX12_readAt_381 (lv_at hl 0 rfl) ?_
                          have hPc := hP.sub (ws' := []) [] rfl
                          have hDc := hD.sub (ws' := []) [] (by decide +kernel) rfl
                          have hFc := va_free (wc := []) hD hS hA [] rfl
                          refine va_calli (va_runS (As := [.int x]) (rest := []) ⟨hx, hb, hml, hown, hts⟩ (m_X12_isLetter l dC dI cI cS H.size x ) (va_cwS 1 hts gX12_readAt_X12_isLetter rfl rfl rfl (by decide +kernel) ⟨Nat.le_of_ble_eq_true rfl, Nat.le_of_ble_eq_true rfl⟩) ⟨fun a U g mk q => by obtain ⟨q0, q1, qP, qK, qD⟩ := q; exact ⟨q0, q1, qP, va_K.moved (u := U) (U := U.calling g mk a) (Vm.Alike.refl U.vm) qK, qD⟩, fun U hU hW => ⟨rfl, by rw [hU], by rw [hU]; exact hPc, va_K.moved hW.alike hK, hDc.weaken (fun _ _ _ _ => trivial)⟩⟩ rfl rfl hl.1 rfl (lv_room (Nat.le_of_ble_eq_true rfl)) dX12_readAt_383 ⟨Nat.le_of_ble_eq_true rfl, Nat.le_of_ble_eq_true rfl⟩) hS (fun q _ h => hFc q h) hFc (fun r_41 u t H1 locs ht hvm hw hB hz1 hk1 hSn => ?_)
                          subst hw
                          obtain ⟨hP1, hD1, hf41_0, hf41_1⟩ := hB
                          rw [ht] at hP1
                          obtain ⟨hPn, hDn⟩ := va_join (wr := [(mL, .inl (cI, 512, .inl eL)), (oM, .inr (12, [.ref mT, .int zt, .ref mS, .ref mX, .int zp, .int zf, .ref mL, .ref mB, .ref mD, .ref m1, .ref m2, .int zh, .ref mR, .int zr, .ref x1, .ref x2, .ref x3, .int zc, .ref mH, .int zy, .int za, .int zb, .int zs, .int zq, .int zw, .int ze, .ref mY, .int zn, .ref mE, .int zm, .int zl, .ref mW, .int zk, .ref mO, .int x, .ref y1, .ref y2, .ref y3, .ref y4, .ref mZ])), (mY, .inl (cI, 2600, .inl eY))]) (w1 := []) hP hD [] [0, 1, 2] rfl rfl (by decide +kernel) (by decide +kernel) hk1 hFc hP1 hD1
                          clear hP hD hS hPc hDc hFc hk1 hz1 hvm ht hP1 hD1
                          generalize H1 = H at hPn hSn ⊢
                          have hP : va_P (dC, dI) vwCl [(mL, .inl (cI, 512, .inl eL)), (oM, .inr (12, [.ref mT, .int zt, .ref mS, .ref mX, .int zp, .int zf, .ref mL, .ref mB, .ref mD, .ref m1, .ref m2, .int zh, .ref mR, .int zr, .ref x1, .ref x2, .ref x3, .int zc, .ref mH, .int zy, .int za, .int zb, .int zs, .int zq, .int zw, .int ze, .ref mY, .int zn, .ref mE, .int zm, .int zl, .ref mW, .int zk, .ref mO, .int x, .ref y1, .ref y2, .ref y3, .ref y4, .ref mZ])), (mY, .inl (cI, 2600, .inl eY))] H := hPn
                          have hD : va_D A [(mL, .inl (cI, 512, .inl eL)), (oM, .inr (12, [.ref mT, .int zt, .ref mS, .ref mX, .int zp, .int zf, .ref mL, .ref mB, .ref mD, .ref m1, .ref m2, .int zh, .ref mR, .int zr, .ref x1, .ref x2, .ref x3, .int zc, .ref mH, .int zy, .int za, .int zb, .int zs, .int zq, .int zw, .int ze, .ref mY, .int zn, .ref mE, .int zm, .int zl, .ref mW, .int zk, .ref mO, .int x, .ref y1, .ref y2, .ref y3, .ref y4, .ref mZ])), (mY, .inl (cI, 2600, .inl eY))] := hDn
                          have hS := hSn
                          clear hPn hDn hSn
                          refine lv_if_eq (tgt := 407) hx hb dX12_readAt_386 (by decide) (fun c_42 => ?_) (fun c_42 => ?_)
                          · have tc_42 : r_41.toInt = 0 := v_eq c_42
                            refine lv_iconst (v := 0) hx hb dX12_readAt_407 (by decide) ?_
                            refine lv_istore (lv' := [(6, .int 0), (5, .int x), (4, .int qq), (3, .int x_1), (0, .ref oM), (1, .int cd), (2, .int q)]) hx hb dX12_readAt_408 hl (by decide) rfl (fun ls hl => ?_)
                            refine lv_iload hx hb dX12_readAt_410 (lv_at hl 0 rfl) ?_
                            refine lv_if_eq (tgt := 424) hx hb dX12_readAt_412 (by decide) (fun c_43 => ?_) (fun c_43 => absurd c_43 (by decide))
                            refine lv_iconst (v := 0) hx hb dX12_readAt_424 (by decide) ?_
                            have hP9 := hP.sub (ws' := [(oM, .inr (12, [.ref mT, .int zt, .ref mS, .ref mX, .int zp, .int zf, .ref mL, .ref mB, .ref mD, .ref m1, .ref m2, .int zh, .ref mR, .int zr, .ref x1, .ref x2, .ref x3, .int zc, .ref mH, .int zy, .int za, .int zb, .int zs, .int zq, .int zw, .int ze, .ref mY, .int zn, .ref mE, .int zm, .int zl, .ref mW, .int zk, .ref mO, .int x, .ref y1, .ref y2, .ref y3, .ref y4, .ref mZ])), (mY, .inl (cI, 2600, .inl eY)), (mL, .inl (cI, 512, .inl eL))]) [1, 2, 0] rfl
                            have hD9 := hD.sub (ws' := [(oM, .inr (12, [.ref mT, .int zt, .ref mS, .ref mX, .int zp, .int zf, .ref mL, .ref mB, .ref mD, .ref m1, .ref m2, .int zh, .ref mR, .int zr, .ref x1, .ref x2, .ref x3, .int zc, .ref mH, .int zy, .int za, .int zb, .int zs, .int zq, .int zw, .int ze, .ref mY, .int zn, .ref mE, .int zm, .int zl, .ref mW, .int zk, .ref mO, .int x, .ref y1, .ref y2, .ref y3, .ref y4, .ref mZ])), (mY, .inl (cI, 2600, .inl eY)), (mL, .inl (cI, 512, .inl eL))]) [1, 2, 0] (by decide +kernel) rfl
                            rw [hQQ]
                            exact W.iret (v := 0) hx hb hr (fun t ht hW => ⟨⟨0, 0, rfl, rfl, ⟨x, by rw [ht]; exact hP9, hD9, by decide, by show 0 = 0 ∨ (0 ≤ x.toInt ∧ x.toInt ≤ 65535); omega⟩⟩, hS.F ht⟩) hS.2.2 dX12_readAt_425
                          · have tc_42 : ¬ r_41.toInt = 0 := v_ne c_42
                            refine lv_iload hx hb dX12_readAt_389 (lv_at hl 0 rfl) ?_
                            refine lv_bipush (v := 38) hx hb dX12_readAt_391 (by decide) ?_
                            refine lv_icmp_eq (tgt := 403) hx hb dX12_readAt_393 (by decide) (fun c_44 => ?_) (fun c_44 => ?_)
                            · have tc_44 : x.toInt = 38 := v_eq c_44
                              refine lv_iconst (v := 1) hx hb dX12_readAt_403 (by decide) ?_
                              refine lv_goto (tgt := 408) hx hb dX12_readAt_404 (by decide) ?_
                              refine lv_istore (lv' := [(6, .int 1), (5, .int x), (4, .int qq), (3, .int x_1), (0, .ref oM), (1, .int cd), (2, .int q)]) hx hb dX12_readAt_408 hl (by decide) rfl (fun ls hl => ?_)
                              refine lv_iload hx hb dX12_readAt_410 (lv_at hl 0 rfl) ?_
                              refine lv_if_eq (tgt := 424) hx hb dX12_readAt_412 (by decide) (fun c_45 => absurd c_45 (by decide)) (fun c_45 => ?_)
                              refine lv_iload hx hb dX12_readAt_415 (lv_at hl 2 rfl) ?_
                              refine lv_iload_n hx hb dX12_readAt_417 rfl (lv_at hl 6 rfl) ?_
                              refine lv_isub hx hb dX12_readAt_418 ?_
                              refine lv_topi (fun x_46 ex_46 => ?_)
                              have tx_46 : x_46.toInt = qq.toInt - q.toInt := v_sub ex_46 (by show -2147483648 ≤ qq.toInt - q.toInt; omega) (by show qq.toInt - q.toInt < 2147483648; omega)
                              refine lv_iconst (v := 1) hx hb dX12_readAt_419 (by decide) ?_
                              refine lv_iadd hx hb dX12_readAt_420 ?_
                              refine lv_topi (fun x_47 ex_47 => ?_)
                              have tx_47 : x_47.toInt = x_46.toInt + 1 := v_add ex_47 (by show -2147483648 ≤ x_46.toInt + 1; omega) (by show x_46.toInt + 1 < 2147483648; omega)
                              refine lv_goto (tgt := 425) hx hb dX12_readAt_421 (by decide) ?_
                              have hP9 := hP.sub (ws' := [(oM, .inr (12, [.ref mT, .int zt, .ref mS, .ref mX, .int zp, .int zf, .ref mL, .ref mB, .ref mD, .ref m1, .ref m2, .int zh, .ref mR, .int zr, .ref x1, .ref x2, .ref x3, .int zc, .ref mH, .int zy, .int za, .int zb, .int zs, .int zq, .int zw, .int ze, .ref mY, .int zn, .ref mE, .int zm, .int zl, .ref mW, .int zk, .ref mO, .int x, .ref y1, .ref y2, .ref y3, .ref y4, .ref mZ])), (mY, .inl (cI, 2600, .inl eY)), (mL, .inl (cI, 512, .inl eL))]) [1, 2, 0] rfl
                              have hD9 := hD.sub (ws' := [(oM, .inr (12, [.ref mT, .int zt, .ref mS, .ref mX, .int zp, .int zf, .ref mL, .ref mB, .ref mD, .ref m1, .ref m2, .int zh, .ref mR, .int zr, .ref x1, .ref x2, .ref x3, .int zc, .ref mH, .int zy, .int za, .int zb, .int zs, .int zq, .int zw, .int ze, .ref mY, .int zn, .ref mE, .int zm, .int zl, .ref mW, .int zk, .ref mO, .int x, .ref y1, .ref y2, .ref y3, .ref y4, .ref mZ])), (mY, .inl (cI, 2600, .inl eY)), (mL, .inl (cI, 512, .inl eL))]) [1, 2, 0] (by decide +kernel) rfl
                              rw [hQQ]
                              exact W.iret (v := x_47) hx hb hr (fun t ht hW => ⟨⟨x_47, x_47, rfl, rfl, ⟨x, by rw [ht]; exact hP9, hD9, by omega, by show x_47.toInt = 0 ∨ (0 ≤ x.toInt ∧ x.toInt ≤ 65535); omega⟩⟩, hS.F ht⟩) hS.2.2 dX12_readAt_425
                            · have tc_44 : ¬ x.toInt = 38 := v_ne c_44
                              refine lv_iload hx hb dX12_readAt_396 (lv_at hl 0 rfl) ?_
                              refine lv_bipush (v := 127) hx hb dX12_readAt_398 (by decide) ?_
                              refine lv_icmp_le (tgt := 407) hx hb dX12_readAt_400 (by decide) (fun c_48 => ?_) (fun c_48 => ?_)
                              · have tc_48 : x.toInt ≤ 127 := v_le c_48
                                refine lv_iconst (v := 0) hx hb dX12_readAt_407 (by decide) ?_
                                refine lv_istore (lv' := [(6, .int 0), (5, .int x), (4, .int qq), (3, .int x_1), (0, .ref oM), (1, .int cd), (2, .int q)]) hx hb dX12_readAt_408 hl (by decide) rfl (fun ls hl => ?_)
                                refine lv_iload hx hb dX12_readAt_410 (lv_at hl 0 rfl) ?_
                                refine lv_if_eq (tgt := 424) hx hb dX12_readAt_412 (by decide) (fun c_49 => ?_) (fun c_49 => absurd c_49 (by decide))
                                refine lv_iconst (v := 0) hx hb dX12_readAt_424 (by decide) ?_
                                have hP9 := hP.sub (ws' := [(oM, .inr (12, [.ref mT, .int zt, .ref mS, .ref mX, .int zp, .int zf, .ref mL, .ref mB, .ref mD, .ref m1, .ref m2, .int zh, .ref mR, .int zr, .ref x1, .ref x2, .ref x3, .int zc, .ref mH, .int zy, .int za, .int zb, .int zs, .int zq, .int zw, .int ze, .ref mY, .int zn, .ref mE, .int zm, .int zl, .ref mW, .int zk, .ref mO, .int x, .ref y1, .ref y2, .ref y3, .ref y4, .ref mZ])), (mY, .inl (cI, 2600, .inl eY)), (mL, .inl (cI, 512, .inl eL))]) [1, 2, 0] rfl
                                have hD9 := hD.sub (ws' := [(oM, .inr (12, [.ref mT, .int zt, .ref mS, .ref mX, .int zp, .int zf, .ref mL, .ref mB, .ref mD, .ref m1, .ref m2, .int zh, .ref mR, .int zr, .ref x1, .ref x2, .ref x3, .int zc, .ref mH, .int zy, .int za, .int zb, .int zs, .int zq, .int zw, .int ze, .ref mY, .int zn, .ref mE, .int zm, .int zl, .ref mW, .int zk, .ref mO, .int x, .ref y1, .ref y2, .ref y3, .ref y4, .ref mZ])), (mY, .inl (cI, 2600, .inl eY)), (mL, .inl (cI, 512, .inl eL))]) [1, 2, 0] (by decide +kernel) rfl
                                rw [hQQ]
                                exact W.iret (v := 0) hx hb hr (fun t ht hW => ⟨⟨0, 0, rfl, rfl, ⟨x, by rw [ht]; exact hP9, hD9, by decide, by show 0 = 0 ∨ (0 ≤ x.toInt ∧ x.toInt ≤ 65535); omega⟩⟩, hS.F ht⟩) hS.2.2 dX12_readAt_425
                              · have tc_48 : 127 < x.toInt := v_nle c_48
                                refine lv_iconst (v := 1) hx hb dX12_readAt_403 (by decide) ?_
                                refine lv_goto (tgt := 408) hx hb dX12_readAt_404 (by decide) ?_
                                refine lv_istore (lv' := [(6, .int 1), (5, .int x), (4, .int qq), (3, .int x_1), (0, .ref oM), (1, .int cd), (2, .int q)]) hx hb dX12_readAt_408 hl (by decide) rfl (fun ls hl => ?_)
                                refine lv_iload hx hb dX12_readAt_410 (lv_at hl 0 rfl) ?_
                                refine lv_if_eq (tgt := 424) hx hb dX12_readAt_412 (by decide) (fun c_50 => absurd c_50 (by decide)) (fun c_50 => ?_)
                                refine lv_iload hx hb dX12_readAt_415 (lv_at hl 2 rfl) ?_
                                refine lv_iload_n hx hb dX12_readAt_417 rfl (lv_at hl 6 rfl) ?_
                                refine lv_isub hx hb dX12_readAt_418 ?_
                                refine lv_topi (fun x_51 ex_51 => ?_)
                                have tx_51 : x_51.toInt = qq.toInt - q.toInt := v_sub ex_51 (by show -2147483648 ≤ qq.toInt - q.toInt; omega) (by show qq.toInt - q.toInt < 2147483648; omega)
                                refine lv_iconst (v := 1) hx hb dX12_readAt_419 (by decide) ?_
                                refine lv_iadd hx hb dX12_readAt_420 ?_
                                refine lv_topi (fun x_52 ex_52 => ?_)
                                have tx_52 : x_52.toInt = x_51.toInt + 1 := v_add ex_52 (by show -2147483648 ≤ x_51.toInt + 1; omega) (by show x_51.toInt + 1 < 2147483648; omega)
                                refine lv_goto (tgt := 425) hx hb dX12_readAt_421 (by decide) ?_
                                have hP9 := hP.sub (ws' := [(oM, .inr (12, [.ref mT, .int zt, .ref mS, .ref mX, .int zp, .int zf, .ref mL, .ref mB, .ref mD, .ref m1, .ref m2, .int zh, .ref mR, .int zr, .ref x1, .ref x2, .ref x3, .int zc, .ref mH, .int zy, .int za, .int zb, .int zs, .int zq, .int zw, .int ze, .ref mY, .int zn, .ref mE, .int zm, .int zl, .ref mW, .int zk, .ref mO, .int x, .ref y1, .ref y2, .ref y3, .ref y4, .ref mZ])), (mY, .inl (cI, 2600, .inl eY)), (mL, .inl (cI, 512, .inl eL))]) [1, 2, 0] rfl
                                have hD9 := hD.sub (ws' := [(oM, .inr (12, [.ref mT, .int zt, .ref mS, .ref mX, .int zp, .int zf, .ref mL, .ref mB, .ref mD, .ref m1, .ref m2, .int zh, .ref mR, .int zr, .ref x1, .ref x2, .ref x3, .int zc, .ref mH, .int zy, .int za, .int zb, .int zs, .int zq, .int zw, .int ze, .ref mY, .int zn, .ref mE, .int zm, .int zl, .ref mW, .int zk, .ref mO, .int x, .ref y1, .ref y2, .ref y3, .ref y4, .ref mZ])), (mY, .inl (cI, 2600, .inl eY)), (mL, .inl (cI, 512, .inl eL))]) [1, 2, 0] (by decide +kernel) rfl
                                rw [hQQ]
                                exact W.iret (v := x_52) hx hb hr (fun t ht hW => ⟨⟨x_52, x_52, rfl, rfl, ⟨x, by rw [ht]; exact hP9, hD9, by omega, by show x_52.toInt = 0 ∨ (0 ≤ x.toInt ∧ x.toInt ≤ 65535); omega⟩⟩, hS.F ht⟩) hS.2.2 dX12_readAt_425
                    · have tc_34 : r_33.toInt ≤ 57 := v_nlt c_34
                      refine lv_iload hx hb dX12_readAt_308 (lv_at hl 1 rfl) ?_
                      refine lv_iload_n hx hb dX12_readAt_310 rfl (lv_at hl 5 rfl) ?_
                      refine lv_isub hx hb dX12_readAt_311 ?_
                      refine lv_topi (fun x_53 ex_53 => ?_)
                      have tx_53 : x_53.toInt = qq.toInt - q.toInt := v_sub ex_53 (by show -2147483648 ≤ qq.toInt - q.toInt; omega) (by show qq.toInt - q.toInt < 2147483648; omega)
                      refine lv_bipush (v := 8) hx hb dX12_readAt_312 (by decide) ?_
                      refine lv_icmp_ge (tgt := 356) hx hb dX12_readAt_314 (by decide) (fun c_54 => ?_) (fun c_54 => ?_)
                      · have tc_54 : 8 ≤ x_53.toInt := v_le c_54
                        refine lv_aload_n hx hb dX12_readAt_356 rfl (lv_at hl 3 rfl) ?_
                        refine lv_iload hx hb dX12_readAt_357 (lv_at hl 0 rfl) ?_
                        refine va_put (D := (dC, dI)) (ci := 12) (v := .int x) (ty := .int) (C := RX12) (T := TX12) (N := 40) hx hb hts in_X12 tyX12 tyX12_ok nmX12 hown hK hP hD hS 1 rfl rfl 34 (by decide) (hts (.fieldLink RX12 105 "TextMenderModel" "readLetter" "I") (List.mem_of_getElem? (i := 2) rfl)) (fun _ h9 => h9) rfl (by decide +kernel) rfl rfl (Nat.le_of_ble_eq_true rfl) dX12_readAt_359 (fun H locs hPn hDn hSn => ?_)
                        clear hP hD hS
                        have hP : va_P (dC, dI) vwCl [(mL, .inl (cI, 512, .inl eL)), (oM, .inr (12, [.ref mT, .int zt, .ref mS, .ref mX, .int zp, .int zf, .ref mL, .ref mB, .ref mD, .ref m1, .ref m2, .int zh, .ref mR, .int zr, .ref x1, .ref x2, .ref x3, .int zc, .ref mH, .int zy, .int za, .int zb, .int zs, .int zq, .int zw, .int ze, .ref mY, .int zn, .ref mE, .int zm, .int zl, .ref mW, .int zk, .ref mO, .int x, .ref y1, .ref y2, .ref y3, .ref y4, .ref mZ])), (mY, .inl (cI, 2600, .inl eY))] H := hPn
                        have hD : va_D A [(mL, .inl (cI, 512, .inl eL)), (oM, .inr (12, [.ref mT, .int zt, .ref mS, .ref mX, .int zp, .int zf, .ref mL, .ref mB, .ref mD, .ref m1, .ref m2, .int zh, .ref mR, .int zr, .ref x1, .ref x2, .ref x3, .int zc, .ref mH, .int zy, .int za, .int zb, .int zs, .int zq, .int zw, .int ze, .ref mY, .int zn, .ref mE, .int zm, .int zl, .ref mW, .int zk, .ref mO, .int x, .ref y1, .ref y2, .ref y3, .ref y4, .ref mZ])), (mY, .inl (cI, 2600, .inl eY))] := hDn
                        have hS := hSn
                        clear hPn hDn hSn
                        refine lv_iload hx hb dX12_readAt_362 (lv_at hl 1 rfl) ?_
                        refine lv_iload_n hx hb dX12_readAt_364 rfl (lv_at hl 5 rfl) ?_
                        refine lv_iconst (v := 2) hx hb dX12_readAt_365 (by decide) ?_
                        refine lv_iadd hx hb dX12_readAt_366 ?_
                        refine lv_topi (fun x_55 ex_55 => ?_)
                        have tx_55 : x_55.toInt = q.toInt + 2 := v_add ex_55 (by show -2147483648 ≤ q.toInt + 2; omega) (by show q.toInt + 2 < 2147483648; omega)
                        refine lv_icmp_le (tgt := 407) hx hb dX12_readAt_367 (by decide) (fun c_56 => ?_) (fun c_56 => ?_)
                        · have tc_56 : qq.toInt ≤ x_55.toInt := v_le c_56
                          refine lv_iconst (v := 0) hx hb dX12_readAt_407 (by decide) ?_
                          refine lv_istore (lv' := [(6, .int 0), (5, .int x), (4, .int qq), (3, .int x_1), (0, .ref oM), (1, .int cd), (2, .int q)]) hx hb dX12_readAt_408 hl (by decide) rfl (fun ls hl => ?_)
                          refine lv_iload hx hb dX12_readAt_410 (lv_at hl 0 rfl) ?_
                          refine lv_if_eq (tgt := 424) hx hb dX12_readAt_412 (by decide) (fun c_57 => ?_) (fun c_57 => absurd c_57 (by decide))
                          refine lv_iconst (v := 0) hx hb dX12_readAt_424 (by decide) ?_
                          have hP9 := hP.sub (ws' := [(oM, .inr (12, [.ref mT, .int zt, .ref mS, .ref mX, .int zp, .int zf, .ref mL, .ref mB, .ref mD, .ref m1, .ref m2, .int zh, .ref mR, .int zr, .ref x1, .ref x2, .ref x3, .int zc, .ref mH, .int zy, .int za, .int zb, .int zs, .int zq, .int zw, .int ze, .ref mY, .int zn, .ref mE, .int zm, .int zl, .ref mW, .int zk, .ref mO, .int x, .ref y1, .ref y2, .ref y3, .ref y4, .ref mZ])), (mY, .inl (cI, 2600, .inl eY)), (mL, .inl (cI, 512, .inl eL))]) [1, 2, 0] rfl
                          have hD9 := hD.sub (ws' := [(oM, .inr (12, [.ref mT, .int zt, .ref mS, .ref mX, .int zp, .int zf, .ref mL, .ref mB, .ref mD, .ref m1, .ref m2, .int zh, .ref mR, .int zr, .ref x1, .ref x2, .ref x3, .int zc, .ref mH, .int zy, .int za, .int zb, .int zs, .int zq, .int zw, .int ze, .ref mY, .int zn, .ref mE, .int zm, .int zl, .ref mW, .int zk, .ref mO, .int x, .ref y1, .ref y2, .ref y3, .ref y4, .ref mZ])), (mY, .inl (cI, 2600, .inl eY)), (mL, .inl (cI, 512, .inl eL))]) [1, 2, 0] (by decide +kernel) rfl
                          rw [hQQ]
                          exact W.iret (v := 0) hx hb hr (fun t ht hW => ⟨⟨0, 0, rfl, rfl, ⟨x, by rw [ht]; exact hP9, hD9, by decide, by show 0 = 0 ∨ (0 ≤ x.toInt ∧ x.toInt ≤ 65535); omega⟩⟩, hS.F ht⟩) hS.2.2 dX12_readAt_425
                        · have tc_56 : x_55.toInt < qq.toInt := v_nle c_56
                          refine lv_aload_n hx hb dX12_readAt_370 rfl (lv_at hl 3 rfl) ?_
                          refine lv_iload hx hb dX12_readAt_371 (lv_at hl 1 rfl) ?_
                          have hPc := hP.sub (ws' := [(oM, .inr (12, [.ref mT, .int zt, .ref mS, .ref mX, .int zp, .int zf, .ref mL, .ref mB, .ref mD, .ref m1, .ref m2, .int zh, .ref mR, .int zr, .ref x1, .ref x2, .ref x3, .int zc, .ref mH, .int zy, .int za, .int zb, .int zs, .int zq, .int zw, .int ze, .ref mY, .int zn, .ref mE, .int zm, .int zl, .ref mW, .int zk, .ref mO, .int x, .ref y1, .ref y2, .ref y3, .ref y4, .ref mZ])), (mY, .inl (cI, 2600, .inl eY))]) [1, 2] rfl
                          have hDc := hD.sub (ws' := [(oM, .inr (12, [.ref mT, .int zt, .ref mS, .ref mX, .int zp, .int zf, .ref mL, .ref mB, .ref mD, .ref m1, .ref m2, .int zh, .ref mR, .int zr, .ref x1, .ref x2, .ref x3, .int zc, .ref mH, .int zy, .int za, .int zb, .int zs, .int zq, .int zw, .int ze, .ref mY, .int zn, .ref mE, .int zm, .int zl, .ref mW, .int zk, .ref mO, .int x, .ref y1, .ref y2, .ref y3, .ref y4, .ref mZ])), (mY, .inl (cI, 2600, .inl eY))]) [1, 2] (by decide +kernel) rfl
                          have hFc := va_free (wc := [(oM, .inr (12, [.ref mT, .int zt, .ref mS, .ref mX, .int zp, .int zf, .ref mL, .ref mB, .ref mD, .ref m1, .ref m2, .int zh, .ref mR, .int zr, .ref x1, .ref x2, .ref x3, .int zc, .ref mH, .int zy, .int za, .int zb, .int zs, .int zq, .int zw, .int ze, .ref mY, .int zn, .ref mE, .int zm, .int zl, .ref mW, .int zk, .ref mO, .int x, .ref y1, .ref y2, .ref y3, .ref y4, .ref mZ])), (mY, .inl (cI, 2600, .inl eY))]) hD hS hA [1, 2] rfl
                          refine va_calli (va_runV (As := [.int qq]) (rest := []) ⟨hx, hb, hml, hown, hts⟩ (m_X12_byteAt l dC dI cI cS H.size oM mT mS mX mL mB mD m1 m2 mR x1 x2 x3 mH mY mE mW mO y1 y2 y3 y4 mZ zt zp zf zh zr zc zy za zb zs zq zw ze zn zm zl zk x eY qq (g_zt) (g_zp) (g_zf) (g_zh) (g_zr) (g_zc) (g_zy) (g_za) (g_zb) (g_zs) (g_zq) (g_zn) (g_zm) (g_zk) (g_eY) (by omega)) (cwV 1 hts gX12_readAt_X12_byteAt rfl rfl rfl (by decide +kernel) ⟨Nat.le_of_ble_eq_true rfl, Nat.le_of_ble_eq_true rfl⟩) ⟨fun a U g mk q => by obtain ⟨q0, q1, qP, qK, qD⟩ := q; exact ⟨q0, q1, qP, va_K.moved (u := U) (U := U.calling g mk a) (Vm.Alike.refl U.vm) qK, qD⟩, va_recv hK hPc (ci := 12) (q0 := 0) rfl rfl, fun U hU hW => ⟨rfl, by rw [hU], by rw [hU]; exact hPc, va_K.moved hW.alike hK, hDc.weaken (fun _ _ _ _ => trivial)⟩⟩ rfl rfl hl.1 rfl (lv_room (Nat.le_of_ble_eq_true rfl)) dX12_readAt_373 ⟨Nat.le_of_ble_eq_true rfl, Nat.le_of_ble_eq_true rfl⟩) hS (fun q _ h => hFc q h) hFc (fun r_58 u t H1 locs ht hvm hw hB hz1 hk1 hSn => ?_)
                          subst hw
                          obtain ⟨hP1, hD1, hf58_0, hf58_1⟩ := hB
                          rw [ht] at hP1
                          obtain ⟨hPn, hDn⟩ := va_join (wr := [(mL, .inl (cI, 512, .inl eL))]) (w1 := [(oM, .inr (12, [.ref mT, .int zt, .ref mS, .ref mX, .int zp, .int zf, .ref mL, .ref mB, .ref mD, .ref m1, .ref m2, .int zh, .ref mR, .int zr, .ref x1, .ref x2, .ref x3, .int zc, .ref mH, .int zy, .int za, .int zb, .int zs, .int zq, .int zw, .int ze, .ref mY, .int zn, .ref mE, .int zm, .int zl, .ref mW, .int zk, .ref mO, .int x, .ref y1, .ref y2, .ref y3, .ref y4, .ref mZ])), (mY, .inl (cI, 2600, .inl eY))]) hP hD [1, 2] [0] rfl rfl (by decide +kernel) (by decide +kernel) hk1 hFc hP1 hD1
                          clear hP hD hS hPc hDc hFc hk1 hz1 hvm ht hP1 hD1
                          generalize H1 = H at hPn hSn ⊢
                          have hP : va_P (dC, dI) vwCl [(mL, .inl (cI, 512, .inl eL)), (oM, .inr (12, [.ref mT, .int zt, .ref mS, .ref mX, .int zp, .int zf, .ref mL, .ref mB, .ref mD, .ref m1, .ref m2, .int zh, .ref mR, .int zr, .ref x1, .ref x2, .ref x3, .int zc, .ref mH, .int zy, .int za, .int zb, .int zs, .int zq, .int zw, .int ze, .ref mY, .int zn, .ref mE, .int zm, .int zl, .ref mW, .int zk, .ref mO, .int x, .ref y1, .ref y2, .ref y3, .ref y4, .ref mZ])), (mY, .inl (cI, 2600, .inl eY))] H := hPn
                          have hD : va_D A [(mL, .inl (cI, 512, .inl eL)), (oM, .inr (12, [.ref mT, .int zt, .ref mS, .ref mX, .int zp, .int zf, .ref mL, .ref mB, .ref mD, .ref m1, .ref m2, .int zh, .ref mR, .int zr, .ref x1, .ref x2, .ref x3, .int zc, .ref mH, .int zy, .int za, .int zb, .int zs, .int zq, .int zw, .int ze, .ref mY, .int zn, .ref mE, .int zm, .int zl, .ref mW, .int zk, .ref mO, .int x, .ref y1, .ref y2, .ref y3, .ref y4, .ref mZ])), (mY, .inl (cI, 2600, .inl eY))] := hDn
                          have hS := hSn
                          clear hPn hDn hSn
                          refine lv_bipush (v := 59) hx hb dX12_readAt_376 (by decide) ?_
                          refine lv_icmp_ne (tgt := 407) hx hb dX12_readAt_378 (by decide) (fun c_59 => ?_) (fun c_59 => ?_)
                          · have tc_59 : ¬ r_58.toInt = 59 := v_ne c_59
                            refine lv_iconst (v := 0) hx hb dX12_readAt_407 (by decide) ?_
                            refine lv_istore (lv' := [(6, .int 0), (5, .int x), (4, .int qq), (3, .int x_1), (0, .ref oM), (1, .int cd), (2, .int q)]) hx hb dX12_readAt_408 hl (by decide) rfl (fun ls hl => ?_)
                            refine lv_iload hx hb dX12_readAt_410 (lv_at hl 0 rfl) ?_
                            refine lv_if_eq (tgt := 424) hx hb dX12_readAt_412 (by decide) (fun c_60 => ?_) (fun c_60 => absurd c_60 (by decide))
                            refine lv_iconst (v := 0) hx hb dX12_readAt_424 (by decide) ?_
                            have hP9 := hP.sub (ws' := [(oM, .inr (12, [.ref mT, .int zt, .ref mS, .ref mX, .int zp, .int zf, .ref mL, .ref mB, .ref mD, .ref m1, .ref m2, .int zh, .ref mR, .int zr, .ref x1, .ref x2, .ref x3, .int zc, .ref mH, .int zy, .int za, .int zb, .int zs, .int zq, .int zw, .int ze, .ref mY, .int zn, .ref mE, .int zm, .int zl, .ref mW, .int zk, .ref mO, .int x, .ref y1, .ref y2, .ref y3, .ref y4, .ref mZ])), (mY, .inl (cI, 2600, .inl eY)), (mL, .inl (cI, 512, .inl eL))]) [1, 2, 0] rfl
                            have hD9 := hD.sub (ws' := [(oM, .inr (12, [.ref mT, .int zt, .ref mS, .ref mX, .int zp, .int zf, .ref mL, .ref mB, .ref mD, .ref m1, .ref m2, .int zh, .ref mR, .int zr, .ref x1, .ref x2, .ref x3, .int zc, .ref mH, .int zy, .int za, .int zb, .int zs, .int zq, .int zw, .int ze, .ref mY, .int zn, .ref mE, .int zm, .int zl, .ref mW, .int zk, .ref mO, .int x, .ref y1, .ref y2, .ref y3, .ref y4, .ref mZ])), (mY, .inl (cI, 2600, .inl eY)), (mL, .inl (cI, 512, .inl eL))]) [1, 2, 0] (by decide +kernel) rfl
                            rw [hQQ]
                            exact W.iret (v := 0) hx hb hr (fun t ht hW => ⟨⟨0, 0, rfl, rfl, ⟨x, by rw [ht]; exact hP9, hD9, by decide, by show 0 = 0 ∨ (0 ≤ x.toInt ∧ x.toInt ≤ 65535); omega⟩⟩, hS.F ht⟩) hS.2.2 dX12_readAt_425
                          · have tc_59 : r_58.toInt = 59 := v_eq c_59
                            refine lv_iload hx hb dX12_readAt_381 (lv_at hl 0 rfl) ?_
                            have hPc := hP.sub (ws' := []) [] rfl
                            have hDc := hD.sub (ws' := []) [] (by decide +kernel) rfl
                            have hFc := va_free (wc := []) hD hS hA [] rfl
                            refine va_calli (va_runS (As := [.int x]) (rest := []) ⟨hx, hb, hml, hown, hts⟩ (m_X12_isLetter l dC dI cI cS H.size x ) (va_cwS 1 hts gX12_readAt_X12_isLetter rfl rfl rfl (by decide +kernel) ⟨Nat.le_of_ble_eq_true rfl, Nat.le_of_ble_eq_true rfl⟩) ⟨fun a U g mk q => by obtain ⟨q0, q1, qP, qK, qD⟩ := q; exact ⟨q0, q1, qP, va_K.moved (u := U) (U := U.calling g mk a) (Vm.Alike.refl U.vm) qK, qD⟩, fun U hU hW => ⟨rfl, by rw [hU], by rw [hU]; exact hPc, va_K.moved hW.alike hK, hDc.weaken (fun _ _ _ _ => trivial)⟩⟩ rfl rfl hl.1 rfl (lv_room (Nat.le_of_ble_eq_true rfl)) dX12_readAt_383 ⟨Nat.le_of_ble_eq_true rfl, Nat.le_of_ble_eq_true rfl⟩) hS (fun q _ h => hFc q h) hFc (fun r_61 u t H1 locs ht hvm hw hB hz1 hk1 hSn => ?_)
                            subst hw
                            obtain ⟨hP1, hD1, hf61_0, hf61_1⟩ := hB
                            rw [ht] at hP1
                            obtain ⟨hPn, hDn⟩ := va_join (wr := [(mL, .inl (cI, 512, .inl eL)), (oM, .inr (12, [.ref mT, .int zt, .ref mS, .ref mX, .int zp, .int zf, .ref mL, .ref mB, .ref mD, .ref m1, .ref m2, .int zh, .ref mR, .int zr, .ref x1, .ref x2, .ref x3, .int zc, .ref mH, .int zy, .int za, .int zb, .int zs, .int zq, .int zw, .int ze, .ref mY, .int zn, .ref mE, .int zm, .int zl, .ref mW, .int zk, .ref mO, .int x, .ref y1, .ref y2, .ref y3, .ref y4, .ref mZ])), (mY, .inl (cI, 2600, .inl eY))]) (w1 := []) hP hD [] [0, 1, 2] rfl rfl (by decide +kernel) (by decide +kernel) hk1 hFc hP1 hD1
                            clear hP hD hS hPc hDc hFc hk1 hz1 hvm ht hP1 hD1
                            generalize H1 = H at hPn hSn ⊢
                            have hP : va_P (dC, dI) vwCl [(mL, .inl (cI, 512, .inl eL)), (oM, .inr (12, [.ref mT, .int zt, .ref mS, .ref mX, .int zp, .int zf, .ref mL, .ref mB, .ref mD, .ref m1, .ref m2, .int zh, .ref mR, .int zr, .ref x1, .ref x2, .ref x3, .int zc, .ref mH, .int zy, .int za, .int zb, .int zs, .int zq, .int zw, .int ze, .ref mY, .int zn, .ref mE, .int zm, .int zl, .ref mW, .int zk, .ref mO, .int x, .ref y1, .ref y2, .ref y3, .ref y4, .ref mZ])), (mY, .inl (cI, 2600, .inl eY))] H := hPn
                            have hD : va_D A [(mL, .inl (cI, 512, .inl eL)), (oM, .inr (12, [.ref mT, .int zt, .ref mS, .ref mX, .int zp, .int zf, .ref mL, .ref mB, .ref mD, .ref m1, .ref m2, .int zh, .ref mR, .int zr, .ref x1, .ref x2, .ref x3, .int zc, .ref mH, .int zy, .int za, .int zb, .int zs, .int zq, .int zw, .int ze, .ref mY, .int zn, .ref mE, .int zm, .int zl, .ref mW, .int zk, .ref mO, .int x, .ref y1, .ref y2, .ref y3, .ref y4, .ref mZ])), (mY, .inl (cI, 2600, .inl eY))] := hDn
                            have hS := hSn
                            clear hPn hDn hSn
                            refine lv_if_eq (tgt := 407) hx hb dX12_readAt_386 (by decide) (fun c_62 => ?_) (fun c_62 => ?_)
                            · have tc_62 : r_61.toInt = 0 := v_eq c_62
                              refine lv_iconst (v := 0) hx hb dX12_readAt_407 (by decide) ?_
                              refine lv_istore (lv' := [(6, .int 0), (5, .int x), (4, .int qq), (3, .int x_1), (0, .ref oM), (1, .int cd), (2, .int q)]) hx hb dX12_readAt_408 hl (by decide) rfl (fun ls hl => ?_)
                              refine lv_iload hx hb dX12_readAt_410 (lv_at hl 0 rfl) ?_
                              refine lv_if_eq (tgt := 424) hx hb dX12_readAt_412 (by decide) (fun c_63 => ?_) (fun c_63 => absurd c_63 (by decide))
                              refine lv_iconst (v := 0) hx hb dX12_readAt_424 (by decide) ?_
                              have hP9 := hP.sub (ws' := [(oM, .inr (12, [.ref mT, .int zt, .ref mS, .ref mX, .int zp, .int zf, .ref mL, .ref mB, .ref mD, .ref m1, .ref m2, .int zh, .ref mR, .int zr, .ref x1, .ref x2, .ref x3, .int zc, .ref mH, .int zy, .int za, .int zb, .int zs, .int zq, .int zw, .int ze, .ref mY, .int zn, .ref mE, .int zm, .int zl, .ref mW, .int zk, .ref mO, .int x, .ref y1, .ref y2, .ref y3, .ref y4, .ref mZ])), (mY, .inl (cI, 2600, .inl eY)), (mL, .inl (cI, 512, .inl eL))]) [1, 2, 0] rfl
                              have hD9 := hD.sub (ws' := [(oM, .inr (12, [.ref mT, .int zt, .ref mS, .ref mX, .int zp, .int zf, .ref mL, .ref mB, .ref mD, .ref m1, .ref m2, .int zh, .ref mR, .int zr, .ref x1, .ref x2, .ref x3, .int zc, .ref mH, .int zy, .int za, .int zb, .int zs, .int zq, .int zw, .int ze, .ref mY, .int zn, .ref mE, .int zm, .int zl, .ref mW, .int zk, .ref mO, .int x, .ref y1, .ref y2, .ref y3, .ref y4, .ref mZ])), (mY, .inl (cI, 2600, .inl eY)), (mL, .inl (cI, 512, .inl eL))]) [1, 2, 0] (by decide +kernel) rfl
                              rw [hQQ]
                              exact W.iret (v := 0) hx hb hr (fun t ht hW => ⟨⟨0, 0, rfl, rfl, ⟨x, by rw [ht]; exact hP9, hD9, by decide, by show 0 = 0 ∨ (0 ≤ x.toInt ∧ x.toInt ≤ 65535); omega⟩⟩, hS.F ht⟩) hS.2.2 dX12_readAt_425
                            · have tc_62 : ¬ r_61.toInt = 0 := v_ne c_62
                              refine lv_iload hx hb dX12_readAt_389 (lv_at hl 0 rfl) ?_
                              refine lv_bipush (v := 38) hx hb dX12_readAt_391 (by decide) ?_
                              refine lv_icmp_eq (tgt := 403) hx hb dX12_readAt_393 (by decide) (fun c_64 => ?_) (fun c_64 => ?_)
                              · have tc_64 : x.toInt = 38 := v_eq c_64
                                refine lv_iconst (v := 1) hx hb dX12_readAt_403 (by decide) ?_
                                refine lv_goto (tgt := 408) hx hb dX12_readAt_404 (by decide) ?_
                                refine lv_istore (lv' := [(6, .int 1), (5, .int x), (4, .int qq), (3, .int x_1), (0, .ref oM), (1, .int cd), (2, .int q)]) hx hb dX12_readAt_408 hl (by decide) rfl (fun ls hl => ?_)
                                refine lv_iload hx hb dX12_readAt_410 (lv_at hl 0 rfl) ?_
                                refine lv_if_eq (tgt := 424) hx hb dX12_readAt_412 (by decide) (fun c_65 => absurd c_65 (by decide)) (fun c_65 => ?_)
                                refine lv_iload hx hb dX12_readAt_415 (lv_at hl 2 rfl) ?_
                                refine lv_iload_n hx hb dX12_readAt_417 rfl (lv_at hl 6 rfl) ?_
                                refine lv_isub hx hb dX12_readAt_418 ?_
                                refine lv_topi (fun x_66 ex_66 => ?_)
                                have tx_66 : x_66.toInt = qq.toInt - q.toInt := v_sub ex_66 (by show -2147483648 ≤ qq.toInt - q.toInt; omega) (by show qq.toInt - q.toInt < 2147483648; omega)
                                refine lv_iconst (v := 1) hx hb dX12_readAt_419 (by decide) ?_
                                refine lv_iadd hx hb dX12_readAt_420 ?_
                                refine lv_topi (fun x_67 ex_67 => ?_)
                                have tx_67 : x_67.toInt = x_66.toInt + 1 := v_add ex_67 (by show -2147483648 ≤ x_66.toInt + 1; omega) (by show x_66.toInt + 1 < 2147483648; omega)
                                refine lv_goto (tgt := 425) hx hb dX12_readAt_421 (by decide) ?_
                                have hP9 := hP.sub (ws' := [(oM, .inr (12, [.ref mT, .int zt, .ref mS, .ref mX, .int zp, .int zf, .ref mL, .ref mB, .ref mD, .ref m1, .ref m2, .int zh, .ref mR, .int zr, .ref x1, .ref x2, .ref x3, .int zc, .ref mH, .int zy, .int za, .int zb, .int zs, .int zq, .int zw, .int ze, .ref mY, .int zn, .ref mE, .int zm, .int zl, .ref mW, .int zk, .ref mO, .int x, .ref y1, .ref y2, .ref y3, .ref y4, .ref mZ])), (mY, .inl (cI, 2600, .inl eY)), (mL, .inl (cI, 512, .inl eL))]) [1, 2, 0] rfl
                                have hD9 := hD.sub (ws' := [(oM, .inr (12, [.ref mT, .int zt, .ref mS, .ref mX, .int zp, .int zf, .ref mL, .ref mB, .ref mD, .ref m1, .ref m2, .int zh, .ref mR, .int zr, .ref x1, .ref x2, .ref x3, .int zc, .ref mH, .int zy, .int za, .int zb, .int zs, .int zq, .int zw, .int ze, .ref mY, .int zn, .ref mE, .int zm, .int zl, .ref mW, .int zk, .ref mO, .int x, .ref y1, .ref y2, .ref y3, .ref y4, .ref mZ])), (mY, .inl (cI, 2600, .inl eY)), (mL, .inl (cI, 512, .inl eL))]) [1, 2, 0] (by decide +kernel) rfl
                                rw [hQQ]
                                exact W.iret (v := x_67) hx hb hr (fun t ht hW => ⟨⟨x_67, x_67, rfl, rfl, ⟨x, by rw [ht]; exact hP9, hD9, by omega, by show x_67.toInt = 0 ∨ (0 ≤ x.toInt ∧ x.toInt ≤ 65535); omega⟩⟩, hS.F ht⟩) hS.2.2 dX12_readAt_425
                              · have tc_64 : ¬ x.toInt = 38 := v_ne c_64
                                refine lv_iload hx hb dX12_readAt_396 (lv_at hl 0 rfl) ?_
                                refine lv_bipush (v := 127) hx hb dX12_readAt_398 (by decide) ?_
                                refine lv_icmp_le (tgt := 407) hx hb dX12_readAt_400 (by decide) (fun c_68 => ?_) (fun c_68 => ?_)
                                · have tc_68 : x.toInt ≤ 127 := v_le c_68
                                  refine lv_iconst (v := 0) hx hb dX12_readAt_407 (by decide) ?_
                                  refine lv_istore (lv' := [(6, .int 0), (5, .int x), (4, .int qq), (3, .int x_1), (0, .ref oM), (1, .int cd), (2, .int q)]) hx hb dX12_readAt_408 hl (by decide) rfl (fun ls hl => ?_)
                                  refine lv_iload hx hb dX12_readAt_410 (lv_at hl 0 rfl) ?_
                                  refine lv_if_eq (tgt := 424) hx hb dX12_readAt_412 (by decide) (fun c_69 => ?_) (fun c_69 => absurd c_69 (by decide))
                                  refine lv_iconst (v := 0) hx hb dX12_readAt_424 (by decide) ?_
                                  have hP9 := hP.sub (ws' := [(oM, .inr (12, [.ref mT, .int zt, .ref mS, .ref mX, .int zp, .int zf, .ref mL, .ref mB, .ref mD, .ref m1, .ref m2, .int zh, .ref mR, .int zr, .ref x1, .ref x2, .ref x3, .int zc, .ref mH, .int zy, .int za, .int zb, .int zs, .int zq, .int zw, .int ze, .ref mY, .int zn, .ref mE, .int zm, .int zl, .ref mW, .int zk, .ref mO, .int x, .ref y1, .ref y2, .ref y3, .ref y4, .ref mZ])), (mY, .inl (cI, 2600, .inl eY)), (mL, .inl (cI, 512, .inl eL))]) [1, 2, 0] rfl
                                  have hD9 := hD.sub (ws' := [(oM, .inr (12, [.ref mT, .int zt, .ref mS, .ref mX, .int zp, .int zf, .ref mL, .ref mB, .ref mD, .ref m1, .ref m2, .int zh, .ref mR, .int zr, .ref x1, .ref x2, .ref x3, .int zc, .ref mH, .int zy, .int za, .int zb, .int zs, .int zq, .int zw, .int ze, .ref mY, .int zn, .ref mE, .int zm, .int zl, .ref mW, .int zk, .ref mO, .int x, .ref y1, .ref y2, .ref y3, .ref y4, .ref mZ])), (mY, .inl (cI, 2600, .inl eY)), (mL, .inl (cI, 512, .inl eL))]) [1, 2, 0] (by decide +kernel) rfl
                                  rw [hQQ]
                                  exact W.iret (v := 0) hx hb hr (fun t ht hW => ⟨⟨0, 0, rfl, rfl, ⟨x, by rw [ht]; exact hP9, hD9, by decide, by show 0 = 0 ∨ (0 ≤ x.toInt ∧ x.toInt ≤ 65535); omega⟩⟩, hS.F ht⟩) hS.2.2 dX12_readAt_425
                                · have tc_68 : 127 < x.toInt := v_nle c_68
                                  refine lv_iconst (v := 1) hx hb dX12_readAt_403 (by decide) ?_
                                  refine lv_goto (tgt := 408) hx hb dX12_readAt_404 (by decide) ?_
                                  refine lv_istore (lv' := [(6, .int 1), (5, .int x), (4, .int qq), (3, .int x_1), (0, .ref oM), (1, .int cd), (2, .int q)]) hx hb dX12_readAt_408 hl (by decide) rfl (fun ls hl => ?_)
                                  refine lv_iload hx hb dX12_readAt_410 (lv_at hl 0 rfl) ?_
                                  refine lv_if_eq (tgt := 424) hx hb dX12_readAt_412 (by decide) (fun c_70 => absurd c_70 (by decide)) (fun c_70 => ?_)
                                  refine lv_iload hx hb dX12_readAt_415 (lv_at hl 2 rfl) ?_
                                  refine lv_iload_n hx hb dX12_readAt_417 rfl (lv_at hl 6 rfl) ?_
                                  refine lv_isub hx hb dX12_readAt_418 ?_
                                  refine lv_topi (fun x_71 ex_71 => ?_)
                                  have tx_71 : x_71.toInt = qq.toInt - q.toInt := v_sub ex_71 (by show -2147483648 ≤ qq.toInt - q.toInt; omega) (by show qq.toInt - q.toInt < 2147483648; omega)
                                  refine lv_iconst (v := 1) hx hb dX12_readAt_419 (by decide) ?_
                                  refine lv_iadd hx hb dX12_readAt_420 ?_
                                  refine lv_topi (fun x_72 ex_72 => ?_)
                                  have tx_72 : x_72.toInt = x_71.toInt + 1 := v_add ex_72 (by show -2147483648 ≤ x_71.toInt + 1; omega) (by show x_71.toInt + 1 < 2147483648; omega)
                                  refine lv_goto (tgt := 425) hx hb dX12_readAt_421 (by decide) ?_
                                  have hP9 := hP.sub (ws' := [(oM, .inr (12, [.ref mT, .int zt, .ref mS, .ref mX, .int zp, .int zf, .ref mL, .ref mB, .ref mD, .ref m1, .ref m2, .int zh, .ref mR, .int zr, .ref x1, .ref x2, .ref x3, .int zc, .ref mH, .int zy, .int za, .int zb, .int zs, .int zq, .int zw, .int ze, .ref mY, .int zn, .ref mE, .int zm, .int zl, .ref mW, .int zk, .ref mO, .int x, .ref y1, .ref y2, .ref y3, .ref y4, .ref mZ])), (mY, .inl (cI, 2600, .inl eY)), (mL, .inl (cI, 512, .inl eL))]) [1, 2, 0] rfl
                                  have hD9 := hD.sub (ws' := [(oM, .inr (12, [.ref mT, .int zt, .ref mS, .ref mX, .int zp, .int zf, .ref mL, .ref mB, .ref mD, .ref m1, .ref m2, .int zh, .ref mR, .int zr, .ref x1, .ref x2, .ref x3, .int zc, .ref mH, .int zy, .int za, .int zb, .int zs, .int zq, .int zw, .int ze, .ref mY, .int zn, .ref mE, .int zm, .int zl, .ref mW, .int zk, .ref mO, .int x, .ref y1, .ref y2, .ref y3, .ref y4, .ref mZ])), (mY, .inl (cI, 2600, .inl eY)), (mL, .inl (cI, 512, .inl eL))]) [1, 2, 0] (by decide +kernel) rfl
                                  rw [hQQ]
                                  exact W.iret (v := x_72) hx hb hr (fun t ht hW => ⟨⟨x_72, x_72, rfl, rfl, ⟨x, by rw [ht]; exact hP9, hD9, by omega, by show x_72.toInt = 0 ∨ (0 ≤ x.toInt ∧ x.toInt ≤ 65535); omega⟩⟩, hS.F ht⟩) hS.2.2 dX12_readAt_425
                      · have tc_54 : x_53.toInt < 8 := v_nle c_54
                        refine lv_iload hx hb dX12_readAt_317 (lv_at hl 0 rfl) ?_
                        refine lv_if_ne (tgt := 332) hx hb dX12_readAt_319 (by decide) (fun c_73 => ?_) (fun c_73 => ?_)
                        · have tc_73 : ¬ x.toInt = 0 := v_ne c_73
                          refine lv_bipush (v := 10) hx hb dX12_readAt_332 (by decide) ?_
                          refine lv_iload hx hb dX12_readAt_334 (lv_at hl 0 rfl) ?_
                          refine lv_imul hx hb dX12_readAt_336 ?_
                          refine lv_topi (fun x_74 ex_74 => ?_)
                          have rv74_1 := v_rng x
                          refine lv_aload_n hx hb dX12_readAt_337 rfl (lv_at hl 3 rfl) ?_
                          refine va_get (D := (dC, dI)) (ci := 12) (v := .ref mY) (C := RX12) (T := TX12) (N := 40) hx hb hts in_X12 hown hK hP 1 rfl rfl 26 (by decide) (hts (.fieldLink RX12 58 "TextMenderModel" "bytes" "[I") (List.mem_of_getElem? (i := 1) rfl)) (fun _ h9 => h9) rfl dX12_readAt_338 ?_
                          refine lv_iload hx hb dX12_readAt_341 (lv_at hl 1 rfl) ?_
                          refine va_iald hx hb hK hP 2 0 rfl rfl (v_in (by omega)) dX12_readAt_343 ?_
                          refine lv_topi (fun x_75 ex_75 => ?_)
                          have tx_75 : 0 ≤ x_75.toInt ∧ x_75.toInt ≤ 255 := rg_at g_eY ex_75
                          refine lv_iadd hx hb dX12_readAt_344 ?_
                          refine lv_topi (fun x_76 ex_76 => ?_)
                          have rv76_0 := v_rng x_74
                          refine lv_bipush (v := 48) hx hb dX12_readAt_345 (by decide) ?_
                          refine lv_isub hx hb dX12_readAt_347 ?_
                          refine lv_topi (fun x_77 ex_77 => ?_)
                          have rv77_0 := v_rng x_76
                          refine lv_istore (lv' := [(5, .int x_77), (4, .int qq), (3, .int x_1), (0, .ref oM), (1, .int cd), (2, .int q)]) hx hb dX12_readAt_348 hl (by decide) rfl (fun ls hl => ?_)
                          obtain ⟨x_78, ex_78⟩ : ∃ y : Int32, y = qq + 1 := ⟨_, rfl⟩
                          have tx_78 : x_78.toInt = qq.toInt + 1 := v_add ex_78 (by show -2147483648 ≤ qq.toInt + 1; omega) (by show qq.toInt + 1 < 2147483648; omega)
                          refine lv_iinc (v := x_78) (lv' := [(4, .int x_78), (5, .int x_77), (3, .int x_1), (0, .ref oM), (1, .int cd), (2, .int q)]) hx hb dX12_readAt_350 hl (k := 1) rfl (by rw [ex_78]; rfl) (by decide) rfl (fun ls hl => ?_)
                          refine lv_goto (tgt := 286) hx hb dX12_readAt_353 (by decide) ?_
                          exact ih_286 x_78 x_77 _ _ _ (ms_lt hm_286 (by show ((q.toInt + 8 - x_78.toInt : Int)) < q.toInt + 8 - qq.toInt; omega) (by show (0 : Int) < q.toInt + 8 - qq.toInt; omega)) (by show 2 ≤ x_78.toInt ∧ x_78.toInt ≤ 2608; omega) (by show q.toInt + 2 ≤ x_78.toInt ∧ x_78.toInt ≤ q.toInt + 8; omega) hP hD hS (lv_sub hl [1, 0, 2, 3, 4, 5] rfl)
                        · have tc_73 : x.toInt = 0 := v_eq c_73
                          refine lv_iload hx hb dX12_readAt_322 (lv_at hl 1 rfl) ?_
                          refine lv_iload_n hx hb dX12_readAt_324 rfl (lv_at hl 5 rfl) ?_
                          refine lv_iconst (v := 2) hx hb dX12_readAt_325 (by decide) ?_
                          refine lv_iadd hx hb dX12_readAt_326 ?_
                          refine lv_topi (fun x_79 ex_79 => ?_)
                          have tx_79 : x_79.toInt = q.toInt + 2 := v_add ex_79 (by show -2147483648 ≤ q.toInt + 2; omega) (by show q.toInt + 2 < 2147483648; omega)
                          refine lv_icmp_le (tgt := 332) hx hb dX12_readAt_327 (by decide) (fun c_80 => ?_) (fun c_80 => ?_)
                          · have tc_80 : qq.toInt ≤ x_79.toInt := v_le c_80
                            refine lv_bipush (v := 10) hx hb dX12_readAt_332 (by decide) ?_
                            refine lv_iload hx hb dX12_readAt_334 (lv_at hl 0 rfl) ?_
                            refine lv_imul hx hb dX12_readAt_336 ?_
                            refine lv_topi (fun x_81 ex_81 => ?_)
                            have tx_81 : x_81.toInt = 10 * x.toInt := v_mul ex_81 (by show -2147483648 ≤ 10 * x.toInt; omega) (by show 10 * x.toInt < 2147483648; omega)
                            refine lv_aload_n hx hb dX12_readAt_337 rfl (lv_at hl 3 rfl) ?_
                            refine va_get (D := (dC, dI)) (ci := 12) (v := .ref mY) (C := RX12) (T := TX12) (N := 40) hx hb hts in_X12 hown hK hP 1 rfl rfl 26 (by decide) (hts (.fieldLink RX12 58 "TextMenderModel" "bytes" "[I") (List.mem_of_getElem? (i := 1) rfl)) (fun _ h9 => h9) rfl dX12_readAt_338 ?_
                            refine lv_iload hx hb dX12_readAt_341 (lv_at hl 1 rfl) ?_
                            refine va_iald hx hb hK hP 2 0 rfl rfl (v_in (by omega)) dX12_readAt_343 ?_
                            refine lv_topi (fun x_82 ex_82 => ?_)
                            have tx_82 : 0 ≤ x_82.toInt ∧ x_82.toInt ≤ 255 := rg_at g_eY ex_82
                            refine lv_iadd hx hb dX12_readAt_344 ?_
                            refine lv_topi (fun x_83 ex_83 => ?_)
                            have tx_83 : x_83.toInt = x_81.toInt + x_82.toInt := v_add ex_83 (by show -2147483648 ≤ x_81.toInt + x_82.toInt; omega) (by show x_81.toInt + x_82.toInt < 2147483648; omega)
                            refine lv_bipush (v := 48) hx hb dX12_readAt_345 (by decide) ?_
                            refine lv_isub hx hb dX12_readAt_347 ?_
                            refine lv_topi (fun x_84 ex_84 => ?_)
                            have tx_84 : x_84.toInt = x_83.toInt - 48 := v_sub ex_84 (by show -2147483648 ≤ x_83.toInt - 48; omega) (by show x_83.toInt - 48 < 2147483648; omega)
                            refine lv_istore (lv' := [(5, .int x_84), (4, .int qq), (3, .int x_1), (0, .ref oM), (1, .int cd), (2, .int q)]) hx hb dX12_readAt_348 hl (by decide) rfl (fun ls hl => ?_)
                            obtain ⟨x_85, ex_85⟩ : ∃ y : Int32, y = qq + 1 := ⟨_, rfl⟩
                            have tx_85 : x_85.toInt = qq.toInt + 1 := v_add ex_85 (by show -2147483648 ≤ qq.toInt + 1; omega) (by show qq.toInt + 1 < 2147483648; omega)
                            refine lv_iinc (v := x_85) (lv' := [(4, .int x_85), (5, .int x_84), (3, .int x_1), (0, .ref oM), (1, .int cd), (2, .int q)]) hx hb dX12_readAt_350 hl (k := 1) rfl (by rw [ex_85]; rfl) (by decide) rfl (fun ls hl => ?_)
                            refine lv_goto (tgt := 286) hx hb dX12_readAt_353 (by decide) ?_
                            exact ih_286 x_85 x_84 _ _ _ (ms_lt hm_286 (by show ((q.toInt + 8 - x_85.toInt : Int)) < q.toInt + 8 - qq.toInt; omega) (by show (0 : Int) < q.toInt + 8 - qq.toInt; omega)) (by show 2 ≤ x_85.toInt ∧ x_85.toInt ≤ 2608; omega) (by show q.toInt + 2 ≤ x_85.toInt ∧ x_85.toInt ≤ q.toInt + 8; omega) hP hD hS (lv_sub hl [1, 0, 2, 3, 4, 5] rfl)
                          · have tc_80 : x_79.toInt < qq.toInt := v_nle c_80
                            refine lv_iconst (v := 0) hx hb dX12_readAt_330 (by decide) ?_
                            have hP9 := hP.sub (ws' := [(oM, .inr (12, [.ref mT, .int zt, .ref mS, .ref mX, .int zp, .int zf, .ref mL, .ref mB, .ref mD, .ref m1, .ref m2, .int zh, .ref mR, .int zr, .ref x1, .ref x2, .ref x3, .int zc, .ref mH, .int zy, .int za, .int zb, .int zs, .int zq, .int zw, .int ze, .ref mY, .int zn, .ref mE, .int zm, .int zl, .ref mW, .int zk, .ref mO, .int x_1, .ref y1, .ref y2, .ref y3, .ref y4, .ref mZ])), (mY, .inl (cI, 2600, .inl eY)), (mL, .inl (cI, 512, .inl eL))]) [1, 2, 0] rfl
                            have hD9 := hD.sub (ws' := [(oM, .inr (12, [.ref mT, .int zt, .ref mS, .ref mX, .int zp, .int zf, .ref mL, .ref mB, .ref mD, .ref m1, .ref m2, .int zh, .ref mR, .int zr, .ref x1, .ref x2, .ref x3, .int zc, .ref mH, .int zy, .int za, .int zb, .int zs, .int zq, .int zw, .int ze, .ref mY, .int zn, .ref mE, .int zm, .int zl, .ref mW, .int zk, .ref mO, .int x_1, .ref y1, .ref y2, .ref y3, .ref y4, .ref mZ])), (mY, .inl (cI, 2600, .inl eY)), (mL, .inl (cI, 512, .inl eL))]) [1, 2, 0] (by decide +kernel) rfl
                            rw [hQQ]
                            exact W.iret (v := 0) hx hb hr (fun t ht hW => ⟨⟨0, 0, rfl, rfl, ⟨x_1, by rw [ht]; exact hP9, hD9, by decide, by show 0 = 0 ∨ (0 ≤ x_1.toInt ∧ x_1.toInt ≤ 65535); omega⟩⟩, hS.F ht⟩) hS.2.2 dX12_readAt_331
              exact LOOP_286 _ x_12 0 _ _ _ (ms_s _) (by show 2 ≤ x_12.toInt ∧ x_12.toInt ≤ 2608; omega) (by show q.toInt + 2 ≤ x_12.toInt ∧ x_12.toInt ≤ q.toInt + 8; omega) hP hD hS (lv_sub hl [0, 1, 2, 3, 4, 5] rfl)
            · have tc_11 : ¬ r_10.toInt = 35 := v_ne c_11
              refine lv_iconst (v := 0) hx hb dX12_readAt_276 (by decide) ?_
              have hP9 := hP.sub (ws' := [(oM, .inr (12, [.ref mT, .int zt, .ref mS, .ref mX, .int zp, .int zf, .ref mL, .ref mB, .ref mD, .ref m1, .ref m2, .int zh, .ref mR, .int zr, .ref x1, .ref x2, .ref x3, .int zc, .ref mH, .int zy, .int za, .int zb, .int zs, .int zq, .int zw, .int ze, .ref mY, .int zn, .ref mE, .int zm, .int zl, .ref mW, .int zk, .ref mO, .int x_1, .ref y1, .ref y2, .ref y3, .ref y4, .ref mZ])), (mY, .inl (cI, 2600, .inl eY)), (mL, .inl (cI, 512, .inl eL))]) [1, 2, 0] rfl
              have hD9 := hD.sub (ws' := [(oM, .inr (12, [.ref mT, .int zt, .ref mS, .ref mX, .int zp, .int zf, .ref mL, .ref mB, .ref mD, .ref m1, .ref m2, .int zh, .ref mR, .int zr, .ref x1, .ref x2, .ref x3, .int zc, .ref mH, .int zy, .int za, .int zb, .int zs, .int zq, .int zw, .int ze, .ref mY, .int zn, .ref mE, .int zm, .int zl, .ref mW, .int zk, .ref mO, .int x_1, .ref y1, .ref y2, .ref y3, .ref y4, .ref mZ])), (mY, .inl (cI, 2600, .inl eY)), (mL, .inl (cI, 512, .inl eL))]) [1, 2, 0] (by decide +kernel) rfl
              rw [hQQ]
              exact W.iret (v := 0) hx hb hr (fun t ht hW => ⟨⟨0, 0, rfl, rfl, ⟨x_1, by rw [ht]; exact hP9, hD9, by decide, by show 0 = 0 ∨ (0 ≤ x_1.toInt ∧ x_1.toInt ≤ 65535); omega⟩⟩, hS.F ht⟩) hS.2.2 dX12_readAt_277
          · have tc_7 : ¬ x_1.toInt = 38 := v_ne c_7
            refine lv_iconst (v := 1) hx hb dX12_readAt_107 (by decide) ?_
            have hP9 := hP.sub (ws' := [(oM, .inr (12, [.ref mT, .int zt, .ref mS, .ref mX, .int zp, .int zf, .ref mL, .ref mB, .ref mD, .ref m1, .ref m2, .int zh, .ref mR, .int zr, .ref x1, .ref x2, .ref x3, .int zc, .ref mH, .int zy, .int za, .int zb, .int zs, .int zq, .int zw, .int ze, .ref mY, .int zn, .ref mE, .int zm, .int zl, .ref mW, .int zk, .ref mO, .int x_1, .ref y1, .ref y2, .ref y3, .ref y4, .ref mZ])), (mY, .inl (cI, 2600, .inl eY)), (mL, .inl (cI, 512, .inl eL))]) [0, 1, 2] rfl
            have hD9 := hD.sub (ws' := [(oM, .inr (12, [.ref mT, .int zt, .ref mS, .ref mX, .int zp, .int zf, .ref mL, .ref mB, .ref mD, .ref m1, .ref m2, .int zh, .ref mR, .int zr, .ref x1, .ref x2, .ref x3, .int zc, .ref mH, .int zy, .int za, .int zb, .int zs, .int zq, .int zw, .int ze, .ref mY, .int zn, .ref mE, .int zm, .int zl, .ref mW, .int zk, .ref mO, .int x_1, .ref y1, .ref y2, .ref y3, .ref y4, .ref mZ])), (mY, .inl (cI, 2600, .inl eY)), (mL, .inl (cI, 512, .inl eL))]) [0, 1, 2] (by decide +kernel) rfl
            rw [hQQ]
            exact W.iret (v := 1) hx hb hr (fun t ht hW => ⟨⟨1, 1, rfl, rfl, ⟨x_1, by rw [ht]; exact hP9, hD9, by decide, by show 1 = 0 ∨ (0 ≤ x_1.toInt ∧ x_1.toInt ≤ 65535); omega⟩⟩, hS.F ht⟩) hS.2.2 dX12_readAt_108
      · have tc_4 : 127 < x_1.toInt := v_nle c_4
        refine lv_iload_n hx hb dX12_readAt_82 rfl (lv_at hl 2 rfl) ?_
        refine lv_iconst (v := 3) hx hb dX12_readAt_83 (by decide) ?_
        refine lv_icmp_ne (tgt := 89) hx hb dX12_readAt_84 (by decide) (fun c_86 => ?_) (fun c_86 => ?_)
        · have tc_86 : ¬ cd.toInt = 3 := v_ne c_86
          refine lv_iload_n hx hb dX12_readAt_89 rfl (lv_at hl 0 rfl) ?_
          refine lv_sipush (v := 128) hx hb dX12_readAt_90 (by decide) ?_
          refine lv_icmp_ge (tgt := 109) hx hb dX12_readAt_93 (by decide) (fun c_87 => ?_) (fun c_87 => by exfalso; have tc_87 : x_1.toInt < 128 := v_nle c_87; omega)
          have tc_87 : 128 ≤ x_1.toInt := v_le c_87
          refine lv_iload_n hx hb dX12_readAt_109 rfl (lv_at hl 2 rfl) ?_
          refine lv_iconst (v := 2) hx hb dX12_readAt_110 (by decide) ?_
          refine lv_icmp_ne (tgt := 264) hx hb dX12_readAt_111 (by decide) (fun c_88 => by exfalso; have tc_88 : ¬ cd.toInt = 2 := v_ne c_88; omega) (fun c_88 => ?_)
          have tc_88 : cd.toInt = 2 := v_eq c_88
          refine lv_aload_n hx hb dX12_readAt_114 rfl (lv_at hl 1 rfl) ?_
          refine lv_iload_n hx hb dX12_readAt_115 rfl (lv_at hl 3 rfl) ?_
          refine lv_iconst (v := 1) hx hb dX12_readAt_116 (by decide) ?_
          refine lv_iadd hx hb dX12_readAt_117 ?_
          refine lv_topi (fun x_89 ex_89 => ?_)
          have tx_89 : x_89.toInt = q.toInt + 1 := v_add ex_89 (by show -2147483648 ≤ q.toInt + 1; omega) (by show q.toInt + 1 < 2147483648; omega)
          have hPc := hP.sub (ws' := [(oM, .inr (12, [.ref mT, .int zt, .ref mS, .ref mX, .int zp, .int zf, .ref mL, .ref mB, .ref mD, .ref m1, .ref m2, .int zh, .ref mR, .int zr, .ref x1, .ref x2, .ref x3, .int zc, .ref mH, .int zy, .int za, .int zb, .int zs, .int zq, .int zw, .int ze, .ref mY, .int zn, .ref mE, .int zm, .int zl, .ref mW, .int zk, .ref mO, .int x_1, .ref y1, .ref y2, .ref y3, .ref y4, .ref mZ])), (mY, .inl (cI, 2600, .inl eY))]) [0, 1] rfl
          have hDc := hD.sub (ws' := [(oM, .inr (12, [.ref mT, .int zt, .ref mS, .ref mX, .int zp, .int zf, .ref mL, .ref mB, .ref mD, .ref m1, .ref m2, .int zh, .ref mR, .int zr, .ref x1, .ref x2, .ref x3, .int zc, .ref mH, .int zy, .int za, .int zb, .int zs, .int zq, .int zw, .int ze, .ref mY, .int zn, .ref mE, .int zm, .int zl, .ref mW, .int zk, .ref mO, .int x_1, .ref y1, .ref y2, .ref y3, .ref y4, .ref mZ])), (mY, .inl (cI, 2600, .inl eY))]) [0, 1] (by decide +kernel) rfl
          have hFc := va_free (wc := [(oM, .inr (12, [.ref mT, .int zt, .ref mS, .ref mX, .int zp, .int zf, .ref mL, .ref mB, .ref mD, .ref m1, .ref m2, .int zh, .ref mR, .int zr, .ref x1, .ref x2, .ref x3, .int zc, .ref mH, .int zy, .int za, .int zb, .int zs, .int zq, .int zw, .int ze, .ref mY, .int zn, .ref mE, .int zm, .int zl, .ref mW, .int zk, .ref mO, .int x_1, .ref y1, .ref y2, .ref y3, .ref y4, .ref mZ])), (mY, .inl (cI, 2600, .inl eY))]) hD hS hA [0, 1] rfl
          refine va_calli (va_runV (As := [.int x_89]) (rest := []) ⟨hx, hb, hml, hown, hts⟩ (m_X12_byteAt l dC dI cI cS H.size oM mT mS mX mL mB mD m1 m2 mR x1 x2 x3 mH mY mE mW mO y1 y2 y3 y4 mZ zt zp zf zh zr zc zy za zb zs zq zw ze zn zm zl zk x_1 eY x_89 (g_zt) (g_zp) (g_zf) (g_zh) (g_zr) (g_zc) (g_zy) (g_za) (g_zb) (g_zs) (g_zq) (g_zn) (g_zm) (g_zk) (g_eY) (by omega)) (cwV 1 hts gX12_readAt_X12_byteAt rfl rfl rfl (by decide +kernel) ⟨Nat.le_of_ble_eq_true rfl, Nat.le_of_ble_eq_true rfl⟩) ⟨fun a U g mk q => by obtain ⟨q0, q1, qP, qK, qD⟩ := q; exact ⟨q0, q1, qP, va_K.moved (u := U) (U := U.calling g mk a) (Vm.Alike.refl U.vm) qK, qD⟩, va_recv hK hPc (ci := 12) (q0 := 0) rfl rfl, fun U hU hW => ⟨rfl, by rw [hU], by rw [hU]; exact hPc, va_K.moved hW.alike hK, hDc.weaken (fun _ _ _ _ => trivial)⟩⟩ rfl rfl hl.1 rfl (lv_room (Nat.le_of_ble_eq_true rfl)) dX12_readAt_118 ⟨Nat.le_of_ble_eq_true rfl, Nat.le_of_ble_eq_true rfl⟩) hS (fun q _ h => hFc q h) hFc (fun r_90 u t H1 locs ht hvm hw hB hz1 hk1 hSn => ?_)
          subst hw
          obtain ⟨hP1, hD1, hf90_0, hf90_1⟩ := hB
          rw [ht] at hP1
          obtain ⟨hPn, hDn⟩ := va_join (wr := [(mL, .inl (cI, 512, .inl eL))]) (w1 := [(oM, .inr (12, [.ref mT, .int zt, .ref mS, .ref mX, .int zp, .int zf, .ref mL, .ref mB, .ref mD, .ref m1, .ref m2, .int zh, .ref mR, .int zr, .ref x1, .ref x2, .ref x3, .int zc, .ref mH, .int zy, .int za, .int zb, .int zs, .int zq, .int zw, .int ze, .ref mY, .int zn, .ref mE, .int zm, .int zl, .ref mW, .int zk, .ref mO, .int x_1, .ref y1, .ref y2, .ref y3, .ref y4, .ref mZ])), (mY, .inl (cI, 2600, .inl eY))]) hP hD [0, 1] [2] rfl rfl (by decide +kernel) (by decide +kernel) hk1 hFc hP1 hD1
          clear hP hD hS hPc hDc hFc hk1 hz1 hvm ht hP1 hD1
          generalize H1 = H at hPn hSn ⊢
          have hP : va_P (dC, dI) vwCl [(mL, .inl (cI, 512, .inl eL)), (oM, .inr (12, [.ref mT, .int zt, .ref mS, .ref mX, .int zp, .int zf, .ref mL, .ref mB, .ref mD, .ref m1, .ref m2, .int zh, .ref mR, .int zr, .ref x1, .ref x2, .ref x3, .int zc, .ref mH, .int zy, .int za, .int zb, .int zs, .int zq, .int zw, .int ze, .ref mY, .int zn, .ref mE, .int zm, .int zl, .ref mW, .int zk, .ref mO, .int x_1, .ref y1, .ref y2, .ref y3, .ref y4, .ref mZ])), (mY, .inl (cI, 2600, .inl eY))] H := hPn
          have hD : va_D A [(mL, .inl (cI, 512, .inl eL)), (oM, .inr (12, [.ref mT, .int zt, .ref mS, .ref mX, .int zp, .int zf, .ref mL, .ref mB, .ref mD, .ref m1, .ref m2, .int zh, .ref mR, .int zr, .ref x1, .ref x2, .ref x3, .int zc, .ref mH, .int zy, .int za, .int zb, .int zs, .int zq, .int zw, .int ze, .ref mY, .int zn, .ref mE, .int zm, .int zl, .ref mW, .int zk, .ref mO, .int x_1, .ref y1, .ref y2, .ref y3, .ref y4, .ref mZ])), (mY, .inl (cI, 2600, .inl eY))] := hDn
          have hS := hSn
          clear hPn hDn hSn
          refine lv_istore (lv' := [(4, .int r_90), (3, .int x_1), (0, .ref oM), (1, .int cd), (2, .int q)]) hx hb dX12_readAt_121 hl (by decide) rfl (fun ls hl => ?_)
          refine lv_iload_n hx hb dX12_readAt_123 rfl (lv_at hl 1 rfl) ?_
          refine lv_sipush (v := 192) hx hb dX12_readAt_124 (by decide) ?_
          refine lv_icmp_lt (tgt := 145) hx hb dX12_readAt_127 (by decide) (fun c_91 => ?_) (fun c_91 => ?_)
          · have tc_91 : x_1.toInt < 192 := v_lt c_91
            refine lv_iconst (v := 0) hx hb dX12_readAt_145 (by decide) ?_
            have hP9 := hP.sub (ws' := [(oM, .inr (12, [.ref mT, .int zt, .ref mS, .ref mX, .int zp, .int zf, .ref mL, .ref mB, .ref mD, .ref m1, .ref m2, .int zh, .ref mR, .int zr, .ref x1, .ref x2, .ref x3, .int zc, .ref mH, .int zy, .int za, .int zb, .int zs, .int zq, .int zw, .int ze, .ref mY, .int zn, .ref mE, .int zm, .int zl, .ref mW, .int zk, .ref mO, .int x_1, .ref y1, .ref y2, .ref y3, .ref y4, .ref mZ])), (mY, .inl (cI, 2600, .inl eY)), (mL, .inl (cI, 512, .inl eL))]) [1, 2, 0] rfl
            have hD9 := hD.sub (ws' := [(oM, .inr (12, [.ref mT, .int zt, .ref mS, .ref mX, .int zp, .int zf, .ref mL, .ref mB, .ref mD, .ref m1, .ref m2, .int zh, .ref mR, .int zr, .ref x1, .ref x2, .ref x3, .int zc, .ref mH, .int zy, .int za, .int zb, .int zs, .int zq, .int zw, .int ze, .ref mY, .int zn, .ref mE, .int zm, .int zl, .ref mW, .int zk, .ref mO, .int x_1, .ref y1, .ref y2, .ref y3, .ref y4, .ref mZ])), (mY, .inl (cI, 2600, .inl eY)), (mL, .inl (cI, 512, .inl eL))]) [1, 2, 0] (by decide +kernel) rfl
            rw [hQQ]
            exact W.iret (v := 0) hx hb hr (fun t ht hW => ⟨⟨0, 0, rfl, rfl, ⟨x_1, by rw [ht]; exact hP9, hD9, by decide, by show 0 = 0 ∨ (0 ≤ x_1.toInt ∧ x_1.toInt ≤ 65535); omega⟩⟩, hS.F ht⟩) hS.2.2 dX12_readAt_146
          · have tc_91 : 192 ≤ x_1.toInt := v_nlt c_91
            refine lv_iload_n hx hb dX12_readAt_130 rfl (lv_at hl 1 rfl) ?_
            refine lv_sipush (v := 239) hx hb dX12_readAt_131 (by decide) ?_
            refine lv_icmp_gt (tgt := 145) hx hb dX12_readAt_134 (by decide) (fun c_92 => ?_) (fun c_92 => ?_)
            · have tc_92 : 239 < x_1.toInt := v_lt c_92
              refine lv_iconst (v := 0) hx hb dX12_readAt_145 (by decide) ?_
              have hP9 := hP.sub (ws' := [(oM, .inr (12, [.ref mT, .int zt, .ref mS, .ref mX, .int zp, .int zf, .ref mL, .ref mB, .ref mD, .ref m1, .ref m2, .int zh, .ref mR, .int zr, .ref x1, .ref x2, .ref x3, .int zc, .ref mH, .int zy, .int za, .int zb, .int zs, .int zq, .int zw, .int ze, .ref mY, .int zn, .ref mE, .int zm, .int zl, .ref mW, .int zk, .ref mO, .int x_1, .ref y1, .ref y2, .ref y3, .ref y4, .ref mZ])), (mY, .inl (cI, 2600, .inl eY)), (mL, .inl (cI, 512, .inl eL))]) [1, 2, 0] rfl
              have hD9 := hD.sub (ws' := [(oM, .inr (12, [.ref mT, .int zt, .ref mS, .ref mX, .int zp, .int zf, .ref mL, .ref mB, .ref mD, .ref m1, .ref m2, .int zh, .ref mR, .int zr, .ref x1, .ref x2, .ref x3, .int zc, .ref mH, .int zy, .int za, .int zb, .int zs, .int zq, .int zw, .int ze, .ref mY, .int zn, .ref mE, .int zm, .int zl, .ref mW, .int zk, .ref mO, .int x_1, .ref y1, .ref y2, .ref y3, .ref y4, .ref mZ])), (mY, .inl (cI, 2600, .inl eY)), (mL, .inl (cI, 512, .inl eL))]) [1, 2, 0] (by decide +kernel) rfl
              rw [hQQ]
              exact W.iret (v := 0) hx hb hr (fun t ht hW => ⟨⟨0, 0, rfl, rfl, ⟨x_1, by rw [ht]; exact hP9, hD9, by decide, by show 0 = 0 ∨ (0 ≤ x_1.toInt ∧ x_1.toInt ≤ 65535); omega⟩⟩, hS.F ht⟩) hS.2.2 dX12_readAt_146
            · have tc_92 : x_1.toInt ≤ 239 := v_nlt c_92
              refine lv_iload hx hb dX12_readAt_137 (lv_at hl 0 rfl) ?_
              have hPc := hP.sub (ws' := []) [] rfl
              have hDc := hD.sub (ws' := []) [] (by decide +kernel) rfl
              have hFc := va_free (wc := []) hD hS hA [] rfl
              refine va_calli (va_runS (As := [.int r_90]) (rest := []) ⟨hx, hb, hml, hown, hts⟩ (m_X12_goesOn l dC dI cI cS H.size r_90 ) (va_cwS 1 hts gX12_readAt_X12_goesOn rfl rfl rfl (by decide +kernel) ⟨Nat.le_of_ble_eq_true rfl, Nat.le_of_ble_eq_true rfl⟩) ⟨fun a U g mk q => by obtain ⟨q0, q1, qP, qK, qD⟩ := q; exact ⟨q0, q1, qP, va_K.moved (u := U) (U := U.calling g mk a) (Vm.Alike.refl U.vm) qK, qD⟩, fun U hU hW => ⟨rfl, by rw [hU], by rw [hU]; exact hPc, va_K.moved hW.alike hK, hDc.weaken (fun _ _ _ _ => trivial)⟩⟩ rfl rfl hl.1 rfl (lv_room (Nat.le_of_ble_eq_true rfl)) dX12_readAt_139 ⟨Nat.le_of_ble_eq_true rfl, Nat.le_of_ble_eq_true rfl⟩) hS (fun q _ h => hFc q h) hFc (fun r_93 u t H1 locs ht hvm hw hB hz1 hk1 hSn => ?_)
              subst hw
              obtain ⟨hP1, hD1, hf93_0, hf93_1⟩ := hB
              rw [ht] at hP1
              obtain ⟨hPn, hDn⟩ := va_join (wr := [(mL, .inl (cI, 512, .inl eL)), (oM, .inr (12, [.ref mT, .int zt, .ref mS, .ref mX, .int zp, .int zf, .ref mL, .ref mB, .ref mD, .ref m1, .ref m2, .int zh, .ref mR, .int zr, .ref x1, .ref x2, .ref x3, .int zc, .ref mH, .int zy, .int za, .int zb, .int zs, .int zq, .int zw, .int ze, .ref mY, .int zn, .ref mE, .int zm, .int zl, .ref mW, .int zk, .ref mO, .int x_1, .ref y1, .ref y2, .ref y3, .ref y4, .ref mZ])), (mY, .inl (cI, 2600, .inl eY))]) (w1 := []) hP hD [] [0, 1, 2] rfl rfl (by decide +kernel) (by decide +kernel) hk1 hFc hP1 hD1
              clear hP hD hS hPc hDc hFc hk1 hz1 hvm ht hP1 hD1
              generalize H1 = H at hPn hSn ⊢
              have hP : va_P (dC, dI) vwCl [(mL, .inl (cI, 512, .inl eL)), (oM, .inr (12, [.ref mT, .int zt, .ref mS, .ref mX, .int zp, .int zf, .ref mL, .ref mB, .ref mD, .ref m1, .ref m2, .int zh, .ref mR, .int zr, .ref x1, .ref x2, .ref x3, .int zc, .ref mH, .int zy, .int za, .int zb, .int zs, .int zq, .int zw, .int ze, .ref mY, .int zn, .ref mE, .int zm, .int zl, .ref mW, .int zk, .ref mO, .int x_1, .ref y1, .ref y2, .ref y3, .ref y4, .ref mZ])), (mY, .inl (cI, 2600, .inl eY))] H := hPn
              have hD : va_D A [(mL, .inl (cI, 512, .inl eL)), (oM, .inr (12, [.ref mT, .int zt, .ref mS, .ref mX, .int zp, .int zf, .ref mL, .ref mB, .ref mD, .ref m1, .ref m2, .int zh, .ref mR, .int zr, .ref x1, .ref x2, .ref x3, .int zc, .ref mH, .int zy, .int za, .int zb, .int zs, .int zq, .int zw, .int ze, .ref mY, .int zn, .ref mE, .int zm, .int zl, .ref mW, .int zk, .ref mO, .int x_1, .ref y1, .ref y2, .ref y3, .ref y4, .ref mZ])), (mY, .inl (cI, 2600, .inl eY))] := hDn
              have hS := hSn
              clear hPn hDn hSn
              refine lv_if_ne (tgt := 147) hx hb dX12_readAt_142 (by decide) (fun c_94 => ?_) (fun c_94 => ?_)
              · have tc_94 : ¬ r_93.toInt = 0 := v_ne c_94
                refine lv_iload_n hx hb dX12_readAt_147 rfl (lv_at hl 1 rfl) ?_
                refine lv_sipush (v := 224) hx hb dX12_readAt_148 (by decide) ?_
                refine lv_icmp_ge (tgt := 189) hx hb dX12_readAt_151 (by decide) (fun c_95 => ?_) (fun c_95 => ?_)
                · have tc_95 : 224 ≤ x_1.toInt := v_le c_95
                  refine lv_aload_n hx hb dX12_readAt_189 rfl (lv_at hl 2 rfl) ?_
                  refine lv_iload_n hx hb dX12_readAt_190 rfl (lv_at hl 4 rfl) ?_
                  refine lv_iconst (v := 2) hx hb dX12_readAt_191 (by decide) ?_
                  refine lv_iadd hx hb dX12_readAt_192 ?_
                  refine lv_topi (fun x_96 ex_96 => ?_)
                  have tx_96 : x_96.toInt = q.toInt + 2 := v_add ex_96 (by show -2147483648 ≤ q.toInt + 2; omega) (by show q.toInt + 2 < 2147483648; omega)
                  have hPc := hP.sub (ws' := [(oM, .inr (12, [.ref mT, .int zt, .ref mS, .ref mX, .int zp, .int zf, .ref mL, .ref mB, .ref mD, .ref m1, .ref m2, .int zh, .ref mR, .int zr, .ref x1, .ref x2, .ref x3, .int zc, .ref mH, .int zy, .int za, .int zb, .int zs, .int zq, .int zw, .int ze, .ref mY, .int zn, .ref mE, .int zm, .int zl, .ref mW, .int zk, .ref mO, .int x_1, .ref y1, .ref y2, .ref y3, .ref y4, .ref mZ])), (mY, .inl (cI, 2600, .inl eY))]) [1, 2] rfl
                  have hDc := hD.sub (ws' := [(oM, .inr (12, [.ref mT, .int zt, .ref mS, .ref mX, .int zp, .int zf, .ref mL, .ref mB, .ref mD, .ref m1, .ref m2, .int zh, .ref mR, .int zr, .ref x1, .ref x2, .ref x3, .int zc, .ref mH, .int zy, .int za, .int zb, .int zs, .int zq, .int zw, .int ze, .ref mY, .int zn, .ref mE, .int zm, .int zl, .ref mW, .int zk, .ref mO, .int x_1, .ref y1, .ref y2, .ref y3, .ref y4, .ref mZ])), (mY, .inl (cI, 2600, .inl eY))]) [1, 2] (by decide +kernel) rfl
                  have hFc := va_free (wc := [(oM, .inr (12, [.ref mT, .int zt, .ref mS, .ref mX, .int zp, .int zf, .ref mL, .ref mB, .ref mD, .ref m1, .ref m2, .int zh, .ref mR, .int zr, .ref x1, .ref x2, .ref x3, .int zc, .ref mH, .int zy, .int za, .int zb, .int zs, .int zq, .int zw, .int ze, .ref mY, .int zn, .ref mE, .int zm, .int zl, .ref mW, .int zk, .ref mO, .int x_1, .ref y1, .ref y2, .ref y3, .ref y4, .ref mZ])), (mY, .inl (cI, 2600, .inl eY))]) hD hS hA [1, 2] rfl
                  refine va_calli (va_runV (As := [.int x_96]) (rest := []) ⟨hx, hb, hml, hown, hts⟩ (m_X12_byteAt l dC dI cI cS H.size oM mT mS mX mL mB mD m1 m2 mR x1 x2 x3 mH mY mE mW mO y1 y2 y3 y4 mZ zt zp zf zh zr zc zy za zb zs zq zw ze zn zm zl zk x_1 eY x_96 (g_zt) (g_zp) (g_zf) (g_zh) (g_zr) (g_zc) (g_zy) (g_za) (g_zb) (g_zs) (g_zq) (g_zn) (g_zm) (g_zk) (g_eY) (by omega)) (cwV 1 hts gX12_readAt_X12_byteAt rfl rfl rfl (by decide +kernel) ⟨Nat.le_of_ble_eq_true rfl, Nat.le_of_ble_eq_true rfl⟩) ⟨fun a U g mk q => by obtain ⟨q0, q1, qP, qK, qD⟩ := q; exact ⟨q0, q1, qP, va_K.moved (u := U) (U := U.calling g mk a) (Vm.Alike.refl U.vm) qK, qD⟩, va_recv hK hPc (ci := 12) (q0 := 0) rfl rfl, fun U hU hW => ⟨rfl, by rw [hU], by rw [hU]; exact hPc, va_K.moved hW.alike hK, hDc.weaken (fun _ _ _ _ => trivial)⟩⟩ rfl rfl hl.1 rfl (lv_room (Nat.le_of_ble_eq_true rfl)) dX12_readAt_193 ⟨Nat.le_of_ble_eq_true rfl, Nat.le_of_ble_eq_true rfl⟩) hS (fun q _ h => hFc q h) hFc (fun r_97 u t H1 locs ht hvm hw hB hz1 hk1 hSn => ?_)
                  subst hw
                  obtain ⟨hP1, hD1, hf97_0, hf97_1⟩ := hB
                  rw [ht] at hP1
                  obtain ⟨hPn, hDn⟩ := va_join (wr := [(mL, .inl (cI, 512, .inl eL))]) (w1 := [(oM, .inr (12, [.ref mT, .int zt, .ref mS, .ref mX, .int zp, .int zf, .ref mL, .ref mB, .ref mD, .ref m1, .ref m2, .int zh, .ref mR, .int zr, .ref x1, .ref x2, .ref x3, .int zc, .ref mH, .int zy, .int za, .int zb, .int zs, .int zq, .int zw, .int ze, .ref mY, .int zn, .ref mE, .int zm, .int zl, .ref mW, .int zk, .ref mO, .int x_1, .ref y1, .ref y2, .ref y3, .ref y4, .ref mZ])), (mY, .inl (cI, 2600, .inl eY))]) hP hD [1, 2] [0] rfl rfl (by decide +kernel) (by decide +kernel) hk1 hFc hP1 hD1
                  clear hP hD hS hPc hDc hFc hk1 hz1 hvm ht hP1 hD1
                  generalize H1 = H at hPn hSn ⊢
                  have hP : va_P (dC, dI) vwCl [(mL, .inl (cI, 512, .inl eL)), (oM, .inr (12, [.ref mT, .int zt, .ref mS, .ref mX, .int zp, .int zf, .ref mL, .ref mB, .ref mD, .ref m1, .ref m2, .int zh, .ref mR, .int zr, .ref x1, .ref x2, .ref x3, .int zc, .ref mH, .int zy, .int za, .int zb, .int zs, .int zq, .int zw, .int ze, .ref mY, .int zn, .ref mE, .int zm, .int zl, .ref mW, .int zk, .ref mO, .int x_1, .ref y1, .ref y2, .ref y3, .ref y4, .ref mZ])), (mY, .inl (cI, 2600, .inl eY))] H := hPn
                  have hD : va_D A [(mL, .inl (cI, 512, .inl eL)), (oM, .inr (12, [.ref mT, .int zt, .ref mS, .ref mX, .int zp, .int zf, .ref mL, .ref mB, .ref mD, .ref m1, .ref m2, .int zh, .ref mR, .int zr, .ref x1, .ref x2, .ref x3, .int zc, .ref mH, .int zy, .int za, .int zb, .int zs, .int zq, .int zw, .int ze, .ref mY, .int zn, .ref mE, .int zm, .int zl, .ref mW, .int zk, .ref mO, .int x_1, .ref y1, .ref y2, .ref y3, .ref y4, .ref mZ])), (mY, .inl (cI, 2600, .inl eY))] := hDn
                  have hS := hSn
                  clear hPn hDn hSn
                  refine lv_istore (lv' := [(5, .int r_97), (4, .int r_90), (3, .int x_1), (0, .ref oM), (1, .int cd), (2, .int q)]) hx hb dX12_readAt_196 hl (by decide) rfl (fun ls hl => ?_)
                  refine lv_iload hx hb dX12_readAt_198 (lv_at hl 0 rfl) ?_
                  have hPc := hP.sub (ws' := []) [] rfl
                  have hDc := hD.sub (ws' := []) [] (by decide +kernel) rfl
                  have hFc := va_free (wc := []) hD hS hA [] rfl
                  refine va_calli (va_runS (As := [.int r_97]) (rest := []) ⟨hx, hb, hml, hown, hts⟩ (m_X12_goesOn l dC dI cI cS H.size r_97 ) (va_cwS 1 hts gX12_readAt_X12_goesOn rfl rfl rfl (by decide +kernel) ⟨Nat.le_of_ble_eq_true rfl, Nat.le_of_ble_eq_true rfl⟩) ⟨fun a U g mk q => by obtain ⟨q0, q1, qP, qK, qD⟩ := q; exact ⟨q0, q1, qP, va_K.moved (u := U) (U := U.calling g mk a) (Vm.Alike.refl U.vm) qK, qD⟩, fun U hU hW => ⟨rfl, by rw [hU], by rw [hU]; exact hPc, va_K.moved hW.alike hK, hDc.weaken (fun _ _ _ _ => trivial)⟩⟩ rfl rfl hl.1 rfl (lv_room (Nat.le_of_ble_eq_true rfl)) dX12_readAt_200 ⟨Nat.le_of_ble_eq_true rfl, Nat.le_of_ble_eq_true rfl⟩) hS (fun q _ h => hFc q h) hFc (fun r_98 u t H1 locs ht hvm hw hB hz1 hk1 hSn => ?_)
                  subst hw
                  obtain ⟨hP1, hD1, hf98_0, hf98_1⟩ := hB
                  rw [ht] at hP1
                  obtain ⟨hPn, hDn⟩ := va_join (wr := [(mL, .inl (cI, 512, .inl eL)), (oM, .inr (12, [.ref mT, .int zt, .ref mS, .ref mX, .int zp, .int zf, .ref mL, .ref mB, .ref mD, .ref m1, .ref m2, .int zh, .ref mR, .int zr, .ref x1, .ref x2, .ref x3, .int zc, .ref mH, .int zy, .int za, .int zb, .int zs, .int zq, .int zw, .int ze, .ref mY, .int zn, .ref mE, .int zm, .int zl, .ref mW, .int zk, .ref mO, .int x_1, .ref y1, .ref y2, .ref y3, .ref y4, .ref mZ])), (mY, .inl (cI, 2600, .inl eY))]) (w1 := []) hP hD [] [0, 1, 2] rfl rfl (by decide +kernel) (by decide +kernel) hk1 hFc hP1 hD1
                  clear hP hD hS hPc hDc hFc hk1 hz1 hvm ht hP1 hD1
                  generalize H1 = H at hPn hSn ⊢
                  have hP : va_P (dC, dI) vwCl [(mL, .inl (cI, 512, .inl eL)), (oM, .inr (12, [.ref mT, .int zt, .ref mS, .ref mX, .int zp, .int zf, .ref mL, .ref mB, .ref mD, .ref m1, .ref m2, .int zh, .ref mR, .int zr, .ref x1, .ref x2, .ref x3, .int zc, .ref mH, .int zy, .int za, .int zb, .int zs, .int zq, .int zw, .int ze, .ref mY, .int zn, .ref mE, .int zm, .int zl, .ref mW, .int zk, .ref mO, .int x_1, .ref y1, .ref y2, .ref y3, .ref y4, .ref mZ])), (mY, .inl (cI, 2600, .inl eY))] H := hPn
                  have hD : va_D A [(mL, .inl (cI, 512, .inl eL)), (oM, .inr (12, [.ref mT, .int zt, .ref mS, .ref mX, .int zp, .int zf, .ref mL, .ref mB, .ref mD, .ref m1, .ref m2, .int zh, .ref mR, .int zr, .ref x1, .ref x2, .ref x3, .int zc, .ref mH, .int zy, .int za, .int zb, .int zs, .int zq, .int zw, .int ze, .ref mY, .int zn, .ref mE, .int zm, .int zl, .ref mW, .int zk, .ref mO, .int x_1, .ref y1, .ref y2, .ref y3, .ref y4, .ref mZ])), (mY, .inl (cI, 2600, .inl eY))] := hDn
                  have hS := hSn
                  clear hPn hDn hSn
                  refine lv_if_ne (tgt := 208) hx hb dX12_readAt_203 (by decide) (fun c_99 => ?_) (fun c_99 => ?_)
                  · have tc_99 : ¬ r_98.toInt = 0 := v_ne c_99
                    refine lv_aload_n hx hb dX12_readAt_208 rfl (lv_at hl 3 rfl) ?_
                    refine lv_iload_n hx hb dX12_readAt_209 rfl (lv_at hl 2 rfl) ?_
                    refine lv_sipush (v := 224) hx hb dX12_readAt_210 (by decide) ?_
                    refine lv_isub hx hb dX12_readAt_213 ?_
                    refine lv_topi (fun x_100 ex_100 => ?_)
                    have tx_100 : x_100.toInt = x_1.toInt - 224 := v_sub ex_100 (by show -2147483648 ≤ x_1.toInt - 224; omega) (by show x_1.toInt - 224 < 2147483648; omega)
                    refine lv_sipush (v := 4096) hx hb dX12_readAt_214 (by decide) ?_
                    refine lv_imul hx hb dX12_readAt_217 ?_
                    refine lv_topi (fun x_101 ex_101 => ?_)
                    have tx_101 : x_101.toInt = x_100.toInt * 4096 := v_mul ex_101 (by show -2147483648 ≤ x_100.toInt * 4096; omega) (by show x_100.toInt * 4096 < 2147483648; omega)
                    refine lv_iload hx hb dX12_readAt_218 (lv_at hl 1 rfl) ?_
                    refine lv_sipush (v := 128) hx hb dX12_readAt_220 (by decide) ?_
                    refine lv_isub hx hb dX12_readAt_223 ?_
                    refine lv_topi (fun x_102 ex_102 => ?_)
                    have tx_102 : x_102.toInt = r_90.toInt - 128 := v_sub ex_102 (by show -2147483648 ≤ r_90.toInt - 128; omega) (by show r_90.toInt - 128 < 2147483648; omega)
                    refine lv_bipush (v := 64) hx hb dX12_readAt_224 (by decide) ?_
                    refine lv_imul hx hb dX12_readAt_226 ?_
                    refine lv_topi (fun x_103 ex_103 => ?_)
                    have tx_103 : x_103.toInt = x_102.toInt * 64 := v_mul ex_103 (by show -2147483648 ≤ x_102.toInt * 64; omega) (by show x_102.toInt * 64 < 2147483648; omega)
                    refine lv_iadd hx hb dX12_readAt_227 ?_
                    refine lv_topi (fun x_104 ex_104 => ?_)
                    have tx_104 : x_104.toInt = x_101.toInt + x_103.toInt := v_add ex_104 (by show -2147483648 ≤ x_101.toInt + x_103.toInt; omega) (by show x_101.toInt + x_103.toInt < 2147483648; omega)
                    refine lv_iload hx hb dX12_readAt_228 (lv_at hl 0 rfl) ?_
                    refine lv_iadd hx hb dX12_readAt_230 ?_
                    refine lv_topi (fun x_105 ex_105 => ?_)
                    have tx_105 : x_105.toInt = x_104.toInt + r_97.toInt := v_add ex_105 (by show -2147483648 ≤ x_104.toInt + r_97.toInt; omega) (by show x_104.toInt + r_97.toInt < 2147483648; omega)
                    refine lv_sipush (v := 128) hx hb dX12_readAt_231 (by decide) ?_
                    refine lv_isub hx hb dX12_readAt_234 ?_
                    refine lv_topi (fun x_106 ex_106 => ?_)
                    have tx_106 : x_106.toInt = x_105.toInt - 128 := v_sub ex_106 (by show -2147483648 ≤ x_105.toInt - 128; omega) (by show x_105.toInt - 128 < 2147483648; omega)
                    refine va_put (D := (dC, dI)) (ci := 12) (v := .int x_106) (ty := .int) (C := RX12) (T := TX12) (N := 40) hx hb hts in_X12 tyX12 tyX12_ok nmX12 hown hK hP hD hS 1 rfl rfl 34 (by decide) (hts (.fieldLink RX12 105 "TextMenderModel" "readLetter" "I") (List.mem_of_getElem? (i := 2) rfl)) (fun _ h9 => h9) rfl (by decide +kernel) rfl rfl (Nat.le_of_ble_eq_true rfl) dX12_readAt_235 (fun H locs hPn hDn hSn => ?_)
                    clear hP hD hS
                    have hP : va_P (dC, dI) vwCl [(mL, .inl (cI, 512, .inl eL)), (oM, .inr (12, [.ref mT, .int zt, .ref mS, .ref mX, .int zp, .int zf, .ref mL, .ref mB, .ref mD, .ref m1, .ref m2, .int zh, .ref mR, .int zr, .ref x1, .ref x2, .ref x3, .int zc, .ref mH, .int zy, .int za, .int zb, .int zs, .int zq, .int zw, .int ze, .ref mY, .int zn, .ref mE, .int zm, .int zl, .ref mW, .int zk, .ref mO, .int x_106, .ref y1, .ref y2, .ref y3, .ref y4, .ref mZ])), (mY, .inl (cI, 2600, .inl eY))] H := hPn
                    have hD : va_D A [(mL, .inl (cI, 512, .inl eL)), (oM, .inr (12, [.ref mT, .int zt, .ref mS, .ref mX, .int zp, .int zf, .ref mL, .ref mB, .ref mD, .ref m1, .ref m2, .int zh, .ref mR, .int zr, .ref x1, .ref x2, .ref x3, .int zc, .ref mH, .int zy, .int za, .int zb, .int zs, .int zq, .int zw, .int ze, .ref mY, .int zn, .ref mE, .int zm, .int zl, .ref mW, .int zk, .ref mO, .int x_106, .ref y1, .ref y2, .ref y3, .ref y4, .ref mZ])), (mY, .inl (cI, 2600, .inl eY))] := hDn
                    have hS := hSn
                    clear hPn hDn hSn
                    refine lv_aload_n hx hb dX12_readAt_238 rfl (lv_at hl 3 rfl) ?_
                    refine va_get (D := (dC, dI)) (ci := 12) (v := .int x_106) (C := RX12) (T := TX12) (N := 40) hx hb hts in_X12 hown hK hP 1 rfl rfl 34 (by decide) (hts (.fieldLink RX12 105 "TextMenderModel" "readLetter" "I") (List.mem_of_getElem? (i := 2) rfl)) (fun _ h9 => h9) rfl dX12_readAt_239 ?_
                    refine lv_sipush (v := 2048) hx hb dX12_readAt_242 (by decide) ?_
                    refine lv_icmp_lt (tgt := 258) hx hb dX12_readAt_245 (by decide) (fun c_107 => ?_) (fun c_107 => ?_)
                    · have tc_107 : x_106.toInt < 2048 := v_lt c_107
                      refine lv_iconst (v := 0) hx hb dX12_readAt_258 (by decide) ?_
                      refine lv_goto (tgt := 263) hx hb dX12_readAt_259 (by decide) ?_
                      have hP9 := hP.sub (ws' := [(oM, .inr (12, [.ref mT, .int zt, .ref mS, .ref mX, .int zp, .int zf, .ref mL, .ref mB, .ref mD, .ref m1, .ref m2, .int zh, .ref mR, .int zr, .ref x1, .ref x2, .ref x3, .int zc, .ref mH, .int zy, .int za, .int zb, .int zs, .int zq, .int zw, .int ze, .ref mY, .int zn, .ref mE, .int zm, .int zl, .ref mW, .int zk, .ref mO, .int x_106, .ref y1, .ref y2, .ref y3, .ref y4, .ref mZ])), (mY, .inl (cI, 2600, .inl eY)), (mL, .inl (cI, 512, .inl eL))]) [1, 2, 0] rfl
                      have hD9 := hD.sub (ws' := [(oM, .inr (12, [.ref mT, .int zt, .ref mS, .ref mX, .int zp, .int zf, .ref mL, .ref mB, .ref mD, .ref m1, .ref m2, .int zh, .ref mR, .int zr, .ref x1, .ref x2, .ref x3, .int zc, .ref mH, .int zy, .int za, .int zb, .int zs, .int zq, .int zw, .int ze, .ref mY, .int zn, .ref mE, .int zm, .int zl, .ref mW, .int zk, .ref mO, .int x_106, .ref y1, .ref y2, .ref y3, .ref y4, .ref mZ])), (mY, .inl (cI, 2600, .inl eY)), (mL, .inl (cI, 512, .inl eL))]) [1, 2, 0] (by decide +kernel) rfl
                      rw [hQQ]
                      exact W.iret (v := 0) hx hb hr (fun t ht hW => ⟨⟨0, 0, rfl, rfl, ⟨x_106, by rw [ht]; exact hP9, hD9, by decide, by show 0 = 0 ∨ (0 ≤ x_106.toInt ∧ x_106.toInt ≤ 65535); omega⟩⟩, hS.F ht⟩) hS.2.2 dX12_readAt_263
                    · have tc_107 : 2048 ≤ x_106.toInt := v_nlt c_107
                      refine lv_aload_n hx hb dX12_readAt_248 rfl (lv_at hl 3 rfl) ?_
                      refine va_get (D := (dC, dI)) (ci := 12) (v := .int x_106) (C := RX12) (T := TX12) (N := 40) hx hb hts in_X12 hown hK hP 1 rfl rfl 34 (by decide) (hts (.fieldLink RX12 105 "TextMenderModel" "readLetter" "I") (List.mem_of_getElem? (i := 2) rfl)) (fun _ h9 => h9) rfl dX12_readAt_249 ?_
                      have hPc := hP.sub (ws' := []) [] rfl
                      have hDc := hD.sub (ws' := []) [] (by decide +kernel) rfl
                      have hFc := va_free (wc := []) hD hS hA [] rfl
                      refine va_calli (va_runS (As := [.int x_106]) (rest := []) ⟨hx, hb, hml, hown, hts⟩ (m_X12_isLetter l dC dI cI cS H.size x_106 ) (va_cwS 1 hts gX12_readAt_X12_isLetter rfl rfl rfl (by decide +kernel) ⟨Nat.le_of_ble_eq_true rfl, Nat.le_of_ble_eq_true rfl⟩) ⟨fun a U g mk q => by obtain ⟨q0, q1, qP, qK, qD⟩ := q; exact ⟨q0, q1, qP, va_K.moved (u := U) (U := U.calling g mk a) (Vm.Alike.refl U.vm) qK, qD⟩, fun U hU hW => ⟨rfl, by rw [hU], by rw [hU]; exact hPc, va_K.moved hW.alike hK, hDc.weaken (fun _ _ _ _ => trivial)⟩⟩ rfl rfl hl.1 rfl (lv_room (Nat.le_of_ble_eq_true rfl)) dX12_readAt_252 ⟨Nat.le_of_ble_eq_true rfl, Nat.le_of_ble_eq_true rfl⟩) hS (fun q _ h => hFc q h) hFc (fun r_108 u t H1 locs ht hvm hw hB hz1 hk1 hSn => ?_)
                      subst hw
                      obtain ⟨hP1, hD1, hf108_0, hf108_1⟩ := hB
                      rw [ht] at hP1
                      obtain ⟨hPn, hDn⟩ := va_join (wr := [(mL, .inl (cI, 512, .inl eL)), (oM, .inr (12, [.ref mT, .int zt, .ref mS, .ref mX, .int zp, .int zf, .ref mL, .ref mB, .ref mD, .ref m1, .ref m2, .int zh, .ref mR, .int zr, .ref x1, .ref x2, .ref x3, .int zc, .ref mH, .int zy, .int za, .int zb, .int zs, .int zq, .int zw, .int ze, .ref mY, .int zn, .ref mE, .int zm, .int zl, .ref mW, .int zk, .ref mO, .int x_106, .ref y1, .ref y2, .ref y3, .ref y4, .ref mZ])), (mY, .inl (cI, 2600, .inl eY))]) (w1 := []) hP hD [] [0, 1, 2] rfl rfl (by decide +kernel) (by decide +kernel) hk1 hFc hP1 hD1
                      clear hP hD hS hPc hDc hFc hk1 hz1 hvm ht hP1 hD1
                      generalize H1 = H at hPn hSn ⊢
                      have hP : va_P (dC, dI) vwCl [(mL, .inl (cI, 512, .inl eL)), (oM, .inr (12, [.ref mT, .int zt, .ref mS, .ref mX, .int zp, .int zf, .ref mL, .ref mB, .ref mD, .ref m1, .ref m2, .int zh, .ref mR, .int zr, .ref x1, .ref x2, .ref x3, .int zc, .ref mH, .int zy, .int za, .int zb, .int zs, .int zq, .int zw, .int ze, .ref mY, .int zn, .ref mE, .int zm, .int zl, .ref mW, .int zk, .ref mO, .int x_106, .ref y1, .ref y2, .ref y3, .ref y4, .ref mZ])), (mY, .inl (cI, 2600, .inl eY))] H := hPn
                      have hD : va_D A [(mL, .inl (cI, 512, .inl eL)), (oM, .inr (12, [.ref mT, .int zt, .ref mS, .ref mX, .int zp, .int zf, .ref mL, .ref mB, .ref mD, .ref m1, .ref m2, .int zh, .ref mR, .int zr, .ref x1, .ref x2, .ref x3, .int zc, .ref mH, .int zy, .int za, .int zb, .int zs, .int zq, .int zw, .int ze, .ref mY, .int zn, .ref mE, .int zm, .int zl, .ref mW, .int zk, .ref mO, .int x_106, .ref y1, .ref y2, .ref y3, .ref y4, .ref mZ])), (mY, .inl (cI, 2600, .inl eY))] := hDn
                      have hS := hSn
                      clear hPn hDn hSn
                      refine lv_if_ne (tgt := 262) hx hb dX12_readAt_255 (by decide) (fun c_109 => ?_) (fun c_109 => ?_)
                      · have tc_109 : ¬ r_108.toInt = 0 := v_ne c_109
                        refine lv_iconst (v := 3) hx hb dX12_readAt_262 (by decide) ?_
                        have hP9 := hP.sub (ws' := [(oM, .inr (12, [.ref mT, .int zt, .ref mS, .ref mX, .int zp, .int zf, .ref mL, .ref mB, .ref mD, .ref m1, .ref m2, .int zh, .ref mR, .int zr, .ref x1, .ref x2, .ref x3, .int zc, .ref mH, .int zy, .int za, .int zb, .int zs, .int zq, .int zw, .int ze, .ref mY, .int zn, .ref mE, .int zm, .int zl, .ref mW, .int zk, .ref mO, .int x_106, .ref y1, .ref y2, .ref y3, .ref y4, .ref mZ])), (mY, .inl (cI, 2600, .inl eY)), (mL, .inl (cI, 512, .inl eL))]) [1, 2, 0] rfl
                        have hD9 := hD.sub (ws' := [(oM, .inr (12, [.ref mT, .int zt, .ref mS, .ref mX, .int zp, .int zf, .ref mL, .ref mB, .ref mD, .ref m1, .ref m2, .int zh, .ref mR, .int zr, .ref x1, .ref x2, .ref x3, .int zc, .ref mH, .int zy, .int za, .int zb, .int zs, .int zq, .int zw, .int ze, .ref mY, .int zn, .ref mE, .int zm, .int zl, .ref mW, .int zk, .ref mO, .int x_106, .ref y1, .ref y2, .ref y3, .ref y4, .ref mZ])), (mY, .inl (cI, 2600, .inl eY)), (mL, .inl (cI, 512, .inl eL))]) [1, 2, 0] (by decide +kernel) rfl
                        rw [hQQ]
                        exact W.iret (v := 3) hx hb hr (fun t ht hW => ⟨⟨3, 3, rfl, rfl, ⟨x_106, by rw [ht]; exact hP9, hD9, by decide, by show 3 = 0 ∨ (0 ≤ x_106.toInt ∧ x_106.toInt ≤ 65535); omega⟩⟩, hS.F ht⟩) hS.2.2 dX12_readAt_263
                      · have tc_109 : r_108.toInt = 0 := v_eq c_109
                        refine lv_iconst (v := 0) hx hb dX12_readAt_258 (by decide) ?_
                        refine lv_goto (tgt := 263) hx hb dX12_readAt_259 (by decide) ?_
                        have hP9 := hP.sub (ws' := [(oM, .inr (12, [.ref mT, .int zt, .ref mS, .ref mX, .int zp, .int zf, .ref mL, .ref mB, .ref mD, .ref m1, .ref m2, .int zh, .ref mR, .int zr, .ref x1, .ref x2, .ref x3, .int zc, .ref mH, .int zy, .int za, .int zb, .int zs, .int zq, .int zw, .int ze, .ref mY, .int zn, .ref mE, .int zm, .int zl, .ref mW, .int zk, .ref mO, .int x_106, .ref y1, .ref y2, .ref y3, .ref y4, .ref mZ])), (mY, .inl (cI, 2600, .inl eY)), (mL, .inl (cI, 512, .inl eL))]) [1, 2, 0] rfl
                        have hD9 := hD.sub (ws' := [(oM, .inr (12, [.ref mT, .int zt, .ref mS, .ref mX, .int zp, .int zf, .ref mL, .ref mB, .ref mD, .ref m1, .ref m2, .int zh, .ref mR, .int zr, .ref x1, .ref x2, .ref x3, .int zc, .ref mH, .int zy, .int za, .int zb, .int zs, .int zq, .int zw, .int ze, .ref mY, .int zn, .ref mE, .int zm, .int zl, .ref mW, .int zk, .ref mO, .int x_106, .ref y1, .ref y2, .ref y3, .ref y4, .ref mZ])), (mY, .inl (cI, 2600, .inl eY)), (mL, .inl (cI, 512, .inl eL))]) [1, 2, 0] (by decide +kernel) rfl
                        rw [hQQ]
                        exact W.iret (v := 0) hx hb hr (fun t ht hW => ⟨⟨0, 0, rfl, rfl, ⟨x_106, by rw [ht]; exact hP9, hD9, by decide, by show 0 = 0 ∨ (0 ≤ x_106.toInt ∧ x_106.toInt ≤ 65535); omega⟩⟩, hS.F ht⟩) hS.2.2 dX12_readAt_263
                  · have tc_99 : r_98.toInt = 0 := v_eq c_99
                    refine lv_iconst (v := 0) hx hb dX12_readAt_206 (by decide) ?_
                    have hP9 := hP.sub (ws' := [(oM, .inr (12, [.ref mT, .int zt, .ref mS, .ref mX, .int zp, .int zf, .ref mL, .ref mB, .ref mD, .ref m1, .ref m2, .int zh, .ref mR, .int zr, .ref x1, .ref x2, .ref x3, .int zc, .ref mH, .int zy, .int za, .int zb, .int zs, .int zq, .int zw, .int ze, .ref mY, .int zn, .ref mE, .int zm, .int zl, .ref mW, .int zk, .ref mO, .int x_1, .ref y1, .ref y2, .ref y3, .ref y4, .ref mZ])), (mY, .inl (cI, 2600, .inl eY)), (mL, .inl (cI, 512, .inl eL))]) [1, 2, 0] rfl
                    have hD9 := hD.sub (ws' := [(oM, .inr (12, [.ref mT, .int zt, .ref mS, .ref mX, .int zp, .int zf, .ref mL, .ref mB, .ref mD, .ref m1, .ref m2, .int zh, .ref mR, .int zr, .ref x1, .ref x2, .ref x3, .int zc, .ref mH, .int zy, .int za, .int zb, .int zs, .int zq, .int zw, .int ze, .ref mY, .int zn, .ref mE, .int zm, .int zl, .ref mW, .int zk, .ref mO, .int x_1, .ref y1, .ref y2, .ref y3, .ref y4, .ref mZ])), (mY, .inl (cI, 2600, .inl eY)), (mL, .inl (cI, 512, .inl eL))]) [1, 2, 0] (by decide +kernel) rfl
                    rw [hQQ]
                    exact W.iret (v := 0) hx hb hr (fun t ht hW => ⟨⟨0, 0, rfl, rfl, ⟨x_1, by rw [ht]; exact hP9, hD9, by decide, by show 0 = 0 ∨ (0 ≤ x_1.toInt ∧ x_1.toInt ≤ 65535); omega⟩⟩, hS.F ht⟩) hS.2.2 dX12_readAt_207
                · have tc_95 : x_1.toInt < 224 := v_nle c_95
                  refine lv_aload_n hx hb dX12_readAt_154 rfl (lv_at hl 2 rfl) ?_
                  refine lv_iload_n hx hb dX12_readAt_155 rfl (lv_at hl 1 rfl) ?_
                  refine lv_sipush (v := 192) hx hb dX12_readAt_156 (by decide) ?_
                  refine lv_isub hx hb dX12_readAt_159 ?_
                  refine lv_topi (fun x_110 ex_110 => ?_)
                  have tx_110 : x_110.toInt = x_1.toInt - 192 := v_sub ex_110 (by show -2147483648 ≤ x_1.toInt - 192; omega) (by show x_1.toInt - 192 < 2147483648; omega)
                  refine lv_bipush (v := 64) hx hb dX12_readAt_160 (by decide) ?_
                  refine lv_imul hx hb dX12_readAt_162 ?_
                  refine lv_topi (fun x_111 ex_111 => ?_)
                  have tx_111 : x_111.toInt = x_110.toInt * 64 := v_mul ex_111 (by show -2147483648 ≤ x_110.toInt * 64; omega) (by show x_110.toInt * 64 < 2147483648; omega)
                  refine lv_iload hx hb dX12_readAt_163 (lv_at hl 0 rfl) ?_
                  refine lv_iadd hx hb dX12_readAt_165 ?_
                  refine lv_topi (fun x_112 ex_112 => ?_)
                  have tx_112 : x_112.toInt = x_111.toInt + r_90.toInt := v_add ex_112 (by show -2147483648 ≤ x_111.toInt + r_90.toInt; omega) (by show x_111.toInt + r_90.toInt < 2147483648; omega)
                  refine lv_sipush (v := 128) hx hb dX12_readAt_166 (by decide) ?_
                  refine lv_isub hx hb dX12_readAt_169 ?_
                  refine lv_topi (fun x_113 ex_113 => ?_)
                  have tx_113 : x_113.toInt = x_112.toInt - 128 := v_sub ex_113 (by show -2147483648 ≤ x_112.toInt - 128; omega) (by show x_112.toInt - 128 < 2147483648; omega)
                  refine va_put (D := (dC, dI)) (ci := 12) (v := .int x_113) (ty := .int) (C := RX12) (T := TX12) (N := 40) hx hb hts in_X12 tyX12 tyX12_ok nmX12 hown hK hP hD hS 1 rfl rfl 34 (by decide) (hts (.fieldLink RX12 105 "TextMenderModel" "readLetter" "I") (List.mem_of_getElem? (i := 2) rfl)) (fun _ h9 => h9) rfl (by decide +kernel) rfl rfl (Nat.le_of_ble_eq_true rfl) dX12_readAt_170 (fun H locs hPn hDn hSn => ?_)
                  clear hP hD hS
                  have hP : va_P (dC, dI) vwCl [(mL, .inl (cI, 512, .inl eL)), (oM, .inr (12, [.ref mT, .int zt, .ref mS, .ref mX, .int zp, .int zf, .ref mL, .ref mB, .ref mD, .ref m1, .ref m2, .int zh, .ref mR, .int zr, .ref x1, .ref x2, .ref x3, .int zc, .ref mH, .int zy, .int za, .int zb, .int zs, .int zq, .int zw, .int ze, .ref mY, .int zn, .ref mE, .int zm, .int zl, .ref mW, .int zk, .ref mO, .int x_113, .ref y1, .ref y2, .ref y3, .ref y4, .ref mZ])), (mY, .inl (cI, 2600, .inl eY))] H := hPn
                  have hD : va_D A [(mL, .inl (cI, 512, .inl eL)), (oM, .inr (12, [.ref mT, .int zt, .ref mS, .ref mX, .int zp, .int zf, .ref mL, .ref mB, .ref mD, .ref m1, .ref m2, .int zh, .ref mR, .int zr, .ref x1, .ref x2, .ref x3, .int zc, .ref mH, .int zy, .int za, .int zb, .int zs, .int zq, .int zw, .int ze, .ref mY, .int zn, .ref mE, .int zm, .int zl, .ref mW, .int zk, .ref mO, .int x_113, .ref y1, .ref y2, .ref y3, .ref y4, .ref mZ])), (mY, .inl (cI, 2600, .inl eY))] := hDn
                  have hS := hSn
                  clear hPn hDn hSn
                  refine lv_aload_n hx hb dX12_readAt_173 rfl (lv_at hl 2 rfl) ?_
                  refine va_get (D := (dC, dI)) (ci := 12) (v := .int x_113) (C := RX12) (T := TX12) (N := 40) hx hb hts in_X12 hown hK hP 1 rfl rfl 34 (by decide) (hts (.fieldLink RX12 105 "TextMenderModel" "readLetter" "I") (List.mem_of_getElem? (i := 2) rfl)) (fun _ h9 => h9) rfl dX12_readAt_174 ?_
                  refine lv_sipush (v := 128) hx hb dX12_readAt_177 (by decide) ?_
                  refine lv_icmp_ge (tgt := 187) hx hb dX12_readAt_180 (by decide) (fun c_114 => ?_) (fun c_114 => ?_)
                  · have tc_114 : 128 ≤ x_113.toInt := v_le c_114
                    refine lv_iconst (v := 2) hx hb dX12_readAt_187 (by decide) ?_
                    have hP9 := hP.sub (ws' := [(oM, .inr (12, [.ref mT, .int zt, .ref mS, .ref mX, .int zp, .int zf, .ref mL, .ref mB, .ref mD, .ref m1, .ref m2, .int zh, .ref mR, .int zr, .ref x1, .ref x2, .ref x3, .int zc, .ref mH, .int zy, .int za, .int zb, .int zs, .int zq, .int zw, .int ze, .ref mY, .int zn, .ref mE, .int zm, .int zl, .ref mW, .int zk, .ref mO, .int x_113, .ref y1, .ref y2, .ref y3, .ref y4, .ref mZ])), (mY, .inl (cI, 2600, .inl eY)), (mL, .inl (cI, 512, .inl eL))]) [1, 2, 0] rfl
                    have hD9 := hD.sub (ws' := [(oM, .inr (12, [.ref mT, .int zt, .ref mS, .ref mX, .int zp, .int zf, .ref mL, .ref mB, .ref mD, .ref m1, .ref m2, .int zh, .ref mR, .int zr, .ref x1, .ref x2, .ref x3, .int zc, .ref mH, .int zy, .int za, .int zb, .int zs, .int zq, .int zw, .int ze, .ref mY, .int zn, .ref mE, .int zm, .int zl, .ref mW, .int zk, .ref mO, .int x_113, .ref y1, .ref y2, .ref y3, .ref y4, .ref mZ])), (mY, .inl (cI, 2600, .inl eY)), (mL, .inl (cI, 512, .inl eL))]) [1, 2, 0] (by decide +kernel) rfl
                    rw [hQQ]
                    exact W.iret (v := 2) hx hb hr (fun t ht hW => ⟨⟨2, 2, rfl, rfl, ⟨x_113, by rw [ht]; exact hP9, hD9, by decide, by show 2 = 0 ∨ (0 ≤ x_113.toInt ∧ x_113.toInt ≤ 65535); omega⟩⟩, hS.F ht⟩) hS.2.2 dX12_readAt_188
                  · have tc_114 : x_113.toInt < 128 := v_nle c_114
                    refine lv_iconst (v := 0) hx hb dX12_readAt_183 (by decide) ?_
                    refine lv_goto (tgt := 188) hx hb dX12_readAt_184 (by decide) ?_
                    have hP9 := hP.sub (ws' := [(oM, .inr (12, [.ref mT, .int zt, .ref mS, .ref mX, .int zp, .int zf, .ref mL, .ref mB, .ref mD, .ref m1, .ref m2, .int zh, .ref mR, .int zr, .ref x1, .ref x2, .ref x3, .int zc, .ref mH, .int zy, .int za, .int zb, .int zs, .int zq, .int zw, .int ze, .ref mY, .int zn, .ref mE, .int zm, .int zl, .ref mW, .int zk, .ref mO, .int x_113, .ref y1, .ref y2, .ref y3, .ref y4, .ref mZ])), (mY, .inl (cI, 2600, .inl eY)), (mL, .inl (cI, 512, .inl eL))]) [1, 2, 0] rfl
                    have hD9 := hD.sub (ws' := [(oM, .inr (12, [.ref mT, .int zt, .ref mS, .ref mX, .int zp, .int zf, .ref mL, .ref mB, .ref mD, .ref m1, .ref m2, .int zh, .ref mR, .int zr, .ref x1, .ref x2, .ref x3, .int zc, .ref mH, .int zy, .int za, .int zb, .int zs, .int zq, .int zw, .int ze, .ref mY, .int zn, .ref mE, .int zm, .int zl, .ref mW, .int zk, .ref mO, .int x_113, .ref y1, .ref y2, .ref y3, .ref y4, .ref mZ])), (mY, .inl (cI, 2600, .inl eY)), (mL, .inl (cI, 512, .inl eL))]) [1, 2, 0] (by decide +kernel) rfl
                    rw [hQQ]
                    exact W.iret (v := 0) hx hb hr (fun t ht hW => ⟨⟨0, 0, rfl, rfl, ⟨x_113, by rw [ht]; exact hP9, hD9, by decide, by show 0 = 0 ∨ (0 ≤ x_113.toInt ∧ x_113.toInt ≤ 65535); omega⟩⟩, hS.F ht⟩) hS.2.2 dX12_readAt_188
              · have tc_94 : r_93.toInt = 0 := v_eq c_94
                refine lv_iconst (v := 0) hx hb dX12_readAt_145 (by decide) ?_
                have hP9 := hP.sub (ws' := [(oM, .inr (12, [.ref mT, .int zt, .ref mS, .ref mX, .int zp, .int zf, .ref mL, .ref mB, .ref mD, .ref m1, .ref m2, .int zh, .ref mR, .int zr, .ref x1, .ref x2, .ref x3, .int zc, .ref mH, .int zy, .int za, .int zb, .int zs, .int zq, .int zw, .int ze, .ref mY, .int zn, .ref mE, .int zm, .int zl, .ref mW, .int zk, .ref mO, .int x_1, .ref y1, .ref y2, .ref y3, .ref y4, .ref mZ])), (mY, .inl (cI, 2600, .inl eY)), (mL, .inl (cI, 512, .inl eL))]) [1, 2, 0] rfl
                have hD9 := hD.sub (ws' := [(oM, .inr (12, [.ref mT, .int zt, .ref mS, .ref mX, .int zp, .int zf, .ref mL, .ref mB, .ref mD, .ref m1, .ref m2, .int zh, .ref mR, .int zr, .ref x1, .ref x2, .ref x3, .int zc, .ref mH, .int zy, .int za, .int zb, .int zs, .int zq, .int zw, .int ze, .ref mY, .int zn, .ref mE, .int zm, .int zl, .ref mW, .int zk, .ref mO, .int x_1, .ref y1, .ref y2, .ref y3, .ref y4, .ref mZ])), (mY, .inl (cI, 2600, .inl eY)), (mL, .inl (cI, 512, .inl eL))]) [1, 2, 0] (by decide +kernel) rfl
                rw [hQQ]
                exact W.iret (v := 0) hx hb hr (fun t ht hW => ⟨⟨0, 0, rfl, rfl, ⟨x_1, by rw [ht]; exact hP9, hD9, by decide, by show 0 = 0 ∨ (0 ≤ x_1.toInt ∧ x_1.toInt ≤ 65535); omega⟩⟩, hS.F ht⟩) hS.2.2 dX12_readAt_146
        · have tc_86 : cd.toInt = 3 := v_eq c_86
          refine lv_iconst (v := 0) hx hb dX12_readAt_87 (by decide) ?_
          have hP9 := hP.sub (ws' := [(oM, .inr (12, [.ref mT, .int zt, .ref mS, .ref mX, .int zp, .int zf, .ref mL, .ref mB, .ref mD, .ref m1, .ref m2, .int zh, .ref mR, .int zr, .ref x1, .ref x2, .ref x3, .int zc, .ref mH, .int zy, .int za, .int zb, .int zs, .int zq, .int zw, .int ze, .ref mY, .int zn, .ref mE, .int zm, .int zl, .ref mW, .int zk, .ref mO, .int x_1, .ref y1, .ref y2, .ref y3, .ref y4, .ref mZ])), (mY, .inl (cI, 2600, .inl eY)), (mL, .inl (cI, 512, .inl eL))]) [0, 1, 2] rfl
          have hD9 := hD.sub (ws' := [(oM, .inr (12, [.ref mT, .int zt, .ref mS, .ref mX, .int zp, .int zf, .ref mL, .ref mB, .ref mD, .ref m1, .ref m2, .int zh, .ref mR, .int zr, .ref x1, .ref x2, .ref x3, .int zc, .ref mH, .int zy, .int za, .int zb, .int zs, .int zq, .int zw, .int ze, .ref mY, .int zn, .ref mE, .int zm, .int zl, .ref mW, .int zk, .ref mO, .int x_1, .ref y1, .ref y2, .ref y3, .ref y4, .ref mZ])), (mY, .inl (cI, 2600, .inl eY)), (mL, .inl (cI, 512, .inl eL))]) [0, 1, 2] (by decide +kernel) rfl
          rw [hQQ]
          exact W.iret (v := 0) hx hb hr (fun t ht hW => ⟨⟨0, 0, rfl, rfl, ⟨x_1, by rw [ht]; exact hP9, hD9, by decide, by show 0 = 0 ∨ (0 ≤ x_1.toInt ∧ x_1.toInt ≤ 65535); omega⟩⟩, hS.F ht⟩) hS.2.2 dX12_readAt_88
    · have tc_3 : 3 < cd.toInt := v_nle c_3
      refine lv_aload_n hx hb dX12_readAt_44 rfl (lv_at hl 1 rfl) ?_
      refine lv_aload_n hx hb dX12_readAt_45 rfl (lv_at hl 1 rfl) ?_
      refine va_get (D := (dC, dI)) (ci := 12) (v := .ref mL) (C := RX12) (T := TX12) (N := 40) hx hb hts in_X12 hown hK hP 0 rfl rfl 6 (by decide) (hts (.fieldLink RX12 19 "TextMenderModel" "letterOf" "[I") (List.mem_of_getElem? (i := 3) rfl)) (fun _ h9 => h9) rfl dX12_readAt_46 ?_
      refine lv_sipush (v := 256) hx hb dX12_readAt_49 (by decide) ?_
      refine lv_iload_n hx hb dX12_readAt_52 rfl (lv_at hl 2 rfl) ?_
      refine lv_iconst (v := 4) hx hb dX12_readAt_53 (by decide) ?_
      refine lv_isub hx hb dX12_readAt_54 ?_
      refine lv_topi (fun x_115 ex_115 => ?_)
      have tx_115 : x_115.toInt = cd.toInt - 4 := v_sub ex_115 (by show -2147483648 ≤ cd.toInt - 4; omega) (by show cd.toInt - 4 < 2147483648; omega)
      refine lv_imul hx hb dX12_readAt_55 ?_
      refine lv_topi (fun x_116 ex_116 => ?_)
      have tx_116 : x_116.toInt = 256 * x_115.toInt := v_mul ex_116 (by show -2147483648 ≤ 256 * x_115.toInt; omega) (by show 256 * x_115.toInt < 2147483648; omega)
      refine lv_iload_n hx hb dX12_readAt_56 rfl (lv_at hl 0 rfl) ?_
      refine lv_iadd hx hb dX12_readAt_57 ?_
      refine lv_topi (fun x_117 ex_117 => ?_)
      have tx_117 : x_117.toInt = x_116.toInt + x_1.toInt := v_add ex_117 (by show -2147483648 ≤ x_116.toInt + x_1.toInt; omega) (by show x_116.toInt + x_1.toInt < 2147483648; omega)
      refine va_iald hx hb hK hP 2 0 rfl rfl (v_in (by omega)) dX12_readAt_58 ?_
      refine lv_topi (fun x_118 ex_118 => ?_)
      have tx_118 : -1 ≤ x_118.toInt ∧ x_118.toInt ≤ 65535 := rg_at g_eL ex_118
      refine va_put (D := (dC, dI)) (ci := 12) (v := .int x_118) (ty := .int) (C := RX12) (T := TX12) (N := 40) hx hb hts in_X12 tyX12 tyX12_ok nmX12 hown hK hP hD hS 0 rfl rfl 34 (by decide) (hts (.fieldLink RX12 105 "TextMenderModel" "readLetter" "I") (List.mem_of_getElem? (i := 2) rfl)) (fun _ h9 => h9) rfl (by decide +kernel) rfl rfl (Nat.le_of_ble_eq_true rfl) dX12_readAt_59 (fun H locs hPn hDn hSn => ?_)
      clear hP hD hS
      have hP : va_P (dC, dI) vwCl [(oM, .inr (12, [.ref mT, .int zt, .ref mS, .ref mX, .int zp, .int zf, .ref mL, .ref mB, .ref mD, .ref m1, .ref m2, .int zh, .ref mR, .int zr, .ref x1, .ref x2, .ref x3, .int zc, .ref mH, .int zy, .int za, .int zb, .int zs, .int zq, .int zw, .int ze, .ref mY, .int zn, .ref mE, .int zm, .int zl, .ref mW, .int zk, .ref mO, .int x_118, .ref y1, .ref y2, .ref y3, .ref y4, .ref mZ])), (mY, .inl (cI, 2600, .inl eY)), (mL, .inl (cI, 512, .inl eL))] H := hPn
      have hD : va_D A [(oM, .inr (12, [.ref mT, .int zt, .ref mS, .ref mX, .int zp, .int zf, .ref mL, .ref mB, .ref mD, .ref m1, .ref m2, .int zh, .ref mR, .int zr, .ref x1, .ref x2, .ref x3, .int zc, .ref mH, .int zy, .int za, .int zb, .int zs, .int zq, .int zw, .int ze, .ref mY, .int zn, .ref mE, .int zm, .int zl, .ref mW, .int zk, .ref mO, .int x_118, .ref y1, .ref y2, .ref y3, .ref y4, .ref mZ])), (mY, .inl (cI, 2600, .inl eY)), (mL, .inl (cI, 512, .inl eL))] := hDn
      have hS := hSn
      clear hPn hDn hSn
      refine lv_aload_n hx hb dX12_readAt_62 rfl (lv_at hl 1 rfl) ?_
      refine va_get (D := (dC, dI)) (ci := 12) (v := .int x_118) (C := RX12) (T := TX12) (N := 40) hx hb hts in_X12 hown hK hP 0 rfl rfl 34 (by decide) (hts (.fieldLink RX12 105 "TextMenderModel" "readLetter" "I") (List.mem_of_getElem? (i := 2) rfl)) (fun _ h9 => h9) rfl dX12_readAt_63 ?_
      refine lv_iconst (v := (-1)) hx hb dX12_readAt_66 (by decide) ?_
      refine lv_icmp_ne (tgt := 74) hx hb dX12_readAt_67 (by decide) (fun c_119 => ?_) (fun c_119 => ?_)
      · have tc_119 : ¬ x_118.toInt = (-1) := v_ne c_119
        refine lv_iconst (v := 1) hx hb dX12_readAt_74 (by decide) ?_
        have hP9 := hP.sub (ws' := [(oM, .inr (12, [.ref mT, .int zt, .ref mS, .ref mX, .int zp, .int zf, .ref mL, .ref mB, .ref mD, .ref m1, .ref m2, .int zh, .ref mR, .int zr, .ref x1, .ref x2, .ref x3, .int zc, .ref mH, .int zy, .int za, .int zb, .int zs, .int zq, .int zw, .int ze, .ref mY, .int zn, .ref mE, .int zm, .int zl, .ref mW, .int zk, .ref mO, .int x_118, .ref y1, .ref y2, .ref y3, .ref y4, .ref mZ])), (mY, .inl (cI, 2600, .inl eY)), (mL, .inl (cI, 512, .inl eL))]) [0, 1, 2] rfl
        have hD9 := hD.sub (ws' := [(oM, .inr (12, [.ref mT, .int zt, .ref mS, .ref mX, .int zp, .int zf, .ref mL, .ref mB, .ref mD, .ref m1, .ref m2, .int zh, .ref mR, .int zr, .ref x1, .ref x2, .ref x3, .int zc, .ref mH, .int zy, .int za, .int zb, .int zs, .int zq, .int zw, .int ze, .ref mY, .int zn, .ref mE, .int zm, .int zl, .ref mW, .int zk, .ref mO, .int x_118, .ref y1, .ref y2, .ref y3, .ref y4, .ref mZ])), (mY, .inl (cI, 2600, .inl eY)), (mL, .inl (cI, 512, .inl eL))]) [0, 1, 2] (by decide +kernel) rfl
        rw [hQQ]
        exact W.iret (v := 1) hx hb hr (fun t ht hW => ⟨⟨1, 1, rfl, rfl, ⟨x_118, by rw [ht]; exact hP9, hD9, by decide, by show 1 = 0 ∨ (0 ≤ x_118.toInt ∧ x_118.toInt ≤ 65535); omega⟩⟩, hS.F ht⟩) hS.2.2 dX12_readAt_75
      · have tc_119 : x_118.toInt = (-1) := v_eq c_119
        refine lv_iconst (v := 0) hx hb dX12_readAt_70 (by decide) ?_
        refine lv_goto (tgt := 75) hx hb dX12_readAt_71 (by decide) ?_
        have hP9 := hP.sub (ws' := [(oM, .inr (12, [.ref mT, .int zt, .ref mS, .ref mX, .int zp, .int zf, .ref mL, .ref mB, .ref mD, .ref m1, .ref m2, .int zh, .ref mR, .int zr, .ref x1, .ref x2, .ref x3, .int zc, .ref mH, .int zy, .int za, .int zb, .int zs, .int zq, .int zw, .int ze, .ref mY, .int zn, .ref mE, .int zm, .int zl, .ref mW, .int zk, .ref mO, .int x_118, .ref y1, .ref y2, .ref y3, .ref y4, .ref mZ])), (mY, .inl (cI, 2600, .inl eY)), (mL, .inl (cI, 512, .inl eL))]) [0, 1, 2] rfl
        have hD9 := hD.sub (ws' := [(oM, .inr (12, [.ref mT, .int zt, .ref mS, .ref mX, .int zp, .int zf, .ref mL, .ref mB, .ref mD, .ref m1, .ref m2, .int zh, .ref mR, .int zr, .ref x1, .ref x2, .ref x3, .int zc, .ref mH, .int zy, .int za, .int zb, .int zs, .int zq, .int zw, .int ze, .ref mY, .int zn, .ref mE, .int zm, .int zl, .ref mW, .int zk, .ref mO, .int x_118, .ref y1, .ref y2, .ref y3, .ref y4, .ref mZ])), (mY, .inl (cI, 2600, .inl eY)), (mL, .inl (cI, 512, .inl eL))]) [0, 1, 2] (by decide +kernel) rfl
        rw [hQQ]
        exact W.iret (v := 0) hx hb hr (fun t ht hW => ⟨⟨0, 0, rfl, rfl, ⟨x_118, by rw [ht]; exact hP9, hD9, by decide, by show 0 = 0 ∨ (0 ≤ x_118.toInt ∧ x_118.toInt ≤ 65535); omega⟩⟩, hS.F ht⟩) hS.2.2 dX12_readAt_75
  · have tc_2 : cd.toInt < 2 := v_nle c_2
    refine lv_iload_n hx hb dX12_readAt_17 rfl (lv_at hl 0 rfl) ?_
    refine lv_iload_n hx hb dX12_readAt_18 rfl (lv_at hl 2 rfl) ?_
    refine lv_if_ne (tgt := 27) hx hb dX12_readAt_19 (by decide) (fun c_120 => ?_) (fun c_120 => ?_)
    · have tc_120 : ¬ cd.toInt = 0 := v_ne c_120
      refine lv_sipush (v := 255) hx hb dX12_readAt_27 (by decide) ?_
      refine lv_icmp_le (tgt := 37) hx hb dX12_readAt_30 (by decide) (fun c_121 => ?_) (fun c_121 => by exfalso; have tc_121 : 255 < x_1.toInt := v_nle c_121; omega)
      have tc_121 : x_1.toInt ≤ 255 := v_le c_121
      refine lv_iconst (v := 1) hx hb dX12_readAt_37 (by decide) ?_
      have hP9 := hP.sub (ws' := [(oM, .inr (12, [.ref mT, .int zt, .ref mS, .ref mX, .int zp, .int zf, .ref mL, .ref mB, .ref mD, .ref m1, .ref m2, .int zh, .ref mR, .int zr, .ref x1, .ref x2, .ref x3, .int zc, .ref mH, .int zy, .int za, .int zb, .int zs, .int zq, .int zw, .int ze, .ref mY, .int zn, .ref mE, .int zm, .int zl, .ref mW, .int zk, .ref mO, .int x_1, .ref y1, .ref y2, .ref y3, .ref y4, .ref mZ])), (mY, .inl (cI, 2600, .inl eY)), (mL, .inl (cI, 512, .inl eL))]) [0, 1, 2] rfl
      have hD9 := hD.sub (ws' := [(oM, .inr (12, [.ref mT, .int zt, .ref mS, .ref mX, .int zp, .int zf, .ref mL, .ref mB, .ref mD, .ref m1, .ref m2, .int zh, .ref mR, .int zr, .ref x1, .ref x2, .ref x3, .int zc, .ref mH, .int zy, .int za, .int zb, .int zs, .int zq, .int zw, .int ze, .ref mY, .int zn, .ref mE, .int zm, .int zl, .ref mW, .int zk, .ref mO, .int x_1, .ref y1, .ref y2, .ref y3, .ref y4, .ref mZ])), (mY, .inl (cI, 2600, .inl eY)), (mL, .inl (cI, 512, .inl eL))]) [0, 1, 2] (by decide +kernel) rfl
      rw [hQQ]
      exact W.iret (v := 1) hx hb hr (fun t ht hW => ⟨⟨1, 1, rfl, rfl, ⟨x_1, by rw [ht]; exact hP9, hD9, by decide, by show 1 = 0 ∨ (0 ≤ x_1.toInt ∧ x_1.toInt ≤ 65535); omega⟩⟩, hS.F ht⟩) hS.2.2 dX12_readAt_38
    · have tc_120 : cd.toInt = 0 := v_eq c_120
      refine lv_bipush (v := 127) hx hb dX12_readAt_22 (by decide) ?_
      refine lv_goto (tgt := 30) hx hb dX12_readAt_24 (by decide) ?_
      refine lv_icmp_le (tgt := 37) hx hb dX12_readAt_30 (by decide) (fun c_122 => ?_) (fun c_122 => ?_)
      · have tc_122 : x_1.toInt ≤ 127 := v_le c_122
        refine lv_iconst (v := 1) hx hb dX12_readAt_37 (by decide) ?_
        have hP9 := hP.sub (ws' := [(oM, .inr (12, [.ref mT, .int zt, .ref mS, .ref mX, .int zp, .int zf, .ref mL, .ref mB, .ref mD, .ref m1, .ref m2, .int zh, .ref mR, .int zr, .ref x1, .ref x2, .ref x3, .int zc, .ref mH, .int zy, .int za, .int zb, .int zs, .int zq, .int zw, .int ze, .ref mY, .int zn, .ref mE, .int zm, .int zl, .ref mW, .int zk, .ref mO, .int x_1, .ref y1, .ref y2, .ref y3, .ref y4, .ref mZ])), (mY, .inl (cI, 2600, .inl eY)), (mL, .inl (cI, 512, .inl eL))]) [0, 1, 2] rfl
        have hD9 := hD.sub (ws' := [(oM, .inr (12, [.ref mT, .int zt, .ref mS, .ref mX, .int zp, .int zf, .ref mL, .ref mB, .ref mD, .ref m1, .ref m2, .int zh, .ref mR, .int zr, .ref x1, .ref x2, .ref x3, .int zc, .ref mH, .int zy, .int za, .int zb, .int zs, .int zq, .int zw, .int ze, .ref mY, .int zn, .ref mE, .int zm, .int zl, .ref mW, .int zk, .ref mO, .int x_1, .ref y1, .ref y2, .ref y3, .ref y4, .ref mZ])), (mY, .inl (cI, 2600, .inl eY)), (mL, .inl (cI, 512, .inl eL))]) [0, 1, 2] (by decide +kernel) rfl
        rw [hQQ]
        exact W.iret (v := 1) hx hb hr (fun t ht hW => ⟨⟨1, 1, rfl, rfl, ⟨x_1, by rw [ht]; exact hP9, hD9, by decide, by show 1 = 0 ∨ (0 ≤ x_1.toInt ∧ x_1.toInt ≤ 65535); omega⟩⟩, hS.F ht⟩) hS.2.2 dX12_readAt_38
      · have tc_122 : 127 < x_1.toInt := v_nle c_122
        refine lv_iconst (v := 0) hx hb dX12_readAt_33 (by decide) ?_
        refine lv_goto (tgt := 38) hx hb dX12_readAt_34 (by decide) ?_
        have hP9 := hP.sub (ws' := [(oM, .inr (12, [.ref mT, .int zt, .ref mS, .ref mX, .int zp, .int zf, .ref mL, .ref mB, .ref mD, .ref m1, .ref m2, .int zh, .ref mR, .int zr, .ref x1, .ref x2, .ref x3, .int zc, .ref mH, .int zy, .int za, .int zb, .int zs, .int zq, .int zw, .int ze, .ref mY, .int zn, .ref mE, .int zm, .int zl, .ref mW, .int zk, .ref mO, .int x_1, .ref y1, .ref y2, .ref y3, .ref y4, .ref mZ])), (mY, .inl (cI, 2600, .inl eY)), (mL, .inl (cI, 512, .inl eL))]) [0, 1, 2] rfl
        have hD9 := hD.sub (ws' := [(oM, .inr (12, [.ref mT, .int zt, .ref mS, .ref mX, .int zp, .int zf, .ref mL, .ref mB, .ref mD, .ref m1, .ref m2, .int zh, .ref mR, .int zr, .ref x1, .ref x2, .ref x3, .int zc, .ref mH, .int zy, .int za, .int zb, .int zs, .int zq, .int zw, .int ze, .ref mY, .int zn, .ref mE, .int zm, .int zl, .ref mW, .int zk, .ref mO, .int x_1, .ref y1, .ref y2, .ref y3, .ref y4, .ref mZ])), (mY, .inl (cI, 2600, .inl eY)), (mL, .inl (cI, 512, .inl eL))]) [0, 1, 2] (by decide +kernel) rfl
        rw [hQQ]
        exact W.iret (v := 0) hx hb hr (fun t ht hW => ⟨⟨0, 0, rfl, rfl, ⟨x_1, by rw [ht]; exact hP9, hD9, by decide, by show 0 = 0 ∨ (0 ≤ x_1.toInt ∧ x_1.toInt ≤ 65535); omega⟩⟩, hS.F ht⟩) hS.2.2 dX12_readAt_38

set_option maxHeartbeats 40000000 in
set_option maxRecDepth 100000 in
theorem m_X12_read (l : Launch) (dC : Nat → ClassId) (dI : Nat → Nat → Nat) (cI cS : ClassId) (sz : Nat) (oM : Nat) (mT : Nat) (mS : Nat) (mX : Nat) (mL : Nat) (mB : Nat) (mD : Nat) (m1 : Nat) (m2 : Nat) (mR : Nat) (x1 : Nat) (x2 : Nat) (x3 : Nat) (mH : Nat) (mY : Nat) (mE : Nat) (mW : Nat) (mO : Nat) (y1 : Nat) (y2 : Nat) (y3 : Nat) (y4 : Nat) (mZ : Nat) (zt : Int32) (zp : Int32) (zf : Int32) (zh : Int32) (zr : Int32) (zc : Int32) (zy : Int32) (za : Int32) (zb : Int32) (zs : Int32) (zq : Int32) (zw : Int32) (ze : Int32) (zn : Int32) (zm : Int32) (zl : Int32) (zk : Int32) (zd : Int32) (eY : Nat → Int32) (eL : Nat → Int32) (eE : Nat → Int32) (cd : Int32) (ro : Int32) (g_zt : 0 ≤ zt.toInt ∧ zt.toInt ≤ 900) (g_zp : 0 ≤ zp.toInt ∧ zp.toInt ≤ 20) (g_zf : 0 ≤ zf.toInt ∧ zf.toInt ≤ 19) (g_zh : 0 ≤ zh.toInt ∧ zh.toInt ≤ 6) (g_zr : 0 ≤ zr.toInt ∧ zr.toInt ≤ 258) (g_zc : 0 ≤ zc.toInt ∧ zc.toInt ≤ 300) (g_zy : 0 ≤ zy.toInt ∧ zy.toInt ≤ 65536) (g_za : 0 ≤ za.toInt ∧ za.toInt ≤ 5) (g_zb : 0 ≤ zb.toInt ∧ zb.toInt ≤ 5) (g_zs : 0 ≤ zs.toInt ∧ zs.toInt ≤ 2000000) (g_zq : -1 ≤ zq.toInt ∧ zq.toInt ≤ 2000000) (g_zn : 0 ≤ zn.toInt ∧ zn.toInt ≤ 2600) (g_zm : 0 ≤ zm.toInt ∧ zm.toInt ≤ 2600) (g_zk : 0 ≤ zk.toInt ∧ zk.toInt ≤ 300) (g_eY : rg 0 255 eY) (g_eL : rg (-1) 65535 eL) (g_eE : rg 0 65535 eE) (g_cd : 0 ≤ cd.toInt ∧ cd.toInt ≤ 5) : Met l yX12_read wsX12_read ({ frames := 2, cells := 0, slots := 0, locals := 47 } : Room) (va_Pc [.ref oM, .int cd, .int ro] (fun U => U.heap.size = sz ∧ va_P (dC, dI) vwCl [(oM, .inr (12, [.ref mT, .int zt, .ref mS, .ref mX, .int zp, .int zf, .ref mL, .ref mB, .ref mD, .ref m1, .ref m2, .int zh, .ref mR, .int zr, .ref x1, .ref x2, .ref x3, .int zc, .ref mH, .int zy, .int za, .int zb, .int zs, .int zq, .int zw, .int ze, .ref mY, .int zn, .ref mE, .int zm, .int zl, .ref mW, .int zk, .ref mO, .int zd, .ref y1, .ref y2, .ref y3, .ref y4, .ref mZ])), (mY, .inl (cI, 2600, .inl eY)), (mL, .inl (cI, 512, .inl eL)), (mE, .inl (cI, 2600, .inl eE))] U.heap ∧ va_K (dC, dI) vwCl [(cI, .int), (cS, .short)] U ∧ va_D (fun _ => True) [(oM, .inr (12, [.ref mT, .int zt, .ref mS, .ref mX, .int zp, .int zf, .ref mL, .ref mB, .ref mD, .ref m1, .ref m2, .int zh, .ref mR, .int zr, .ref x1, .ref x2, .ref x3, .int zc, .ref mH, .int zy, .int za, .int zb, .int zs, .int zq, .int zw, .int ze, .ref mY, .int zn, .ref mE, .int zm, .int zl, .ref mW, .int zk, .ref mO, .int zd, .ref y1, .ref y2, .ref y3, .ref y4, .ref mZ])), (mY, .inl (cI, 2600, .inl eY)), (mL, .inl (cI, 512, .inl eL)), (mE, .inl (cI, 2600, .inl eE))])) (va_Qi (fun (r : Int32) (u : Int32) => r = u) (fun (r : Int32) t => ∃ (zd' : Int32) (zm' : Int32) (zl' : Int32) (eE' : Nat → Int32), va_P (dC, dI) vwCl [(oM, .inr (12, [.ref mT, .int zt, .ref mS, .ref mX, .int zp, .int zf, .ref mL, .ref mB, .ref mD, .ref m1, .ref m2, .int zh, .ref mR, .int zr, .ref x1, .ref x2, .ref x3, .int zc, .ref mH, .int zy, .int za, .int zb, .int zs, .int zq, .int zw, .int ze, .ref mY, .int zn, .ref mE, .int zm', .int zl', .ref mW, .int zk, .ref mO, .int zd', .ref y1, .ref y2, .ref y3, .ref y4, .ref mZ])), (mY, .inl (cI, 2600, .inl eY)), (mL, .inl (cI, 512, .inl eL)), (mE, .inl (cI, 2600, .inl eE'))] t.heap ∧ va_D (va_A [(oM, .inr (12, [.ref mT, .int zt, .ref mS, .ref mX, .int zp, .int zf, .ref mL, .ref mB, .ref mD, .ref m1, .ref m2, .int zh, .ref mR, .int zr, .ref x1, .ref x2, .ref x3, .int zc, .ref mH, .int zy, .int za, .int zb, .int zs, .int zq, .int zw, .int ze, .ref mY, .int zn, .ref mE, .int zm, .int zl, .ref mW, .int zk, .ref mO, .int zd, .ref y1, .ref y2, .ref y3, .ref y4, .ref mZ])), (mY, .inl (cI, 2600, .inl eY)), (mL, .inl (cI, 512, .inl eL)), (mE, .inl (cI, 2600, .inl eE))] sz) [(oM, .inr (12, [.ref mT, .int zt, .ref mS, .ref mX, .int zp, .int zf, .ref mL, .ref mB, .ref mD, .ref m1, .ref m2, .int zh, .ref mR, .int zr, .ref x1, .ref x2, .ref x3, .int zc, .ref mH, .int zy, .int za, .int zb, .int zs, .int zq, .int zw, .int ze, .ref mY, .int zn, .ref mE, .int zm', .int zl', .ref mW, .int zk, .ref mO, .int zd', .ref y1, .ref y2, .ref y3, .ref y4, .ref mZ])), (mY, .inl (cI, 2600, .inl eY)), (mL, .inl (cI, 512, .inl eL)), (mE, .inl (cI, 2600, .inl eE'))] ∧ (0 ≤ zm'.toInt ∧ zm'.toInt ≤ 2600) ∧ (rg 0 65535 eE') ∧ (0 ≤ r.toInt ∧ r.toInt ≤ 1) ∧ (zm'.toInt ≤ zn.toInt)) (va_A [(oM, .inr (12, [.ref mT, .int zt, .ref mS, .ref mX, .int zp, .int zf, .ref mL, .ref mB, .ref mD, .ref m1, .ref m2, .int zh, .ref mR, .int zr, .ref x1, .ref x2, .ref x3, .int zc, .ref mH, .int zy, .int za, .int zb, .int zs, .int zq, .int zw, .int ze, .ref mY, .int zn, .ref mE, .int zm, .int zl, .ref mW, .int zk, .ref mO, .int zd, .ref y1, .ref y2, .ref y3, .ref y4, .ref mZ])), (mY, .inl (cI, 2600, .inl eY)), (mL, .inl (cI, 512, .inl eL)), (mE, .inl (cI, 2600, .inl eE))] sz)) 0 0 (va_A [(oM, .inr (12, [.ref mT, .int zt, .ref mS, .ref mX, .int zp, .int zf, .ref mL, .ref mB, .ref mD, .ref m1, .ref m2, .int zh, .ref mR, .int zr, .ref x1, .ref x2, .ref x3, .int zc, .ref mH, .int zy, .int za, .int zb, .int zs, .int zq, .int zw, .int ze, .ref mY, .int zn, .ref mE, .int zm, .int zl, .ref mW, .int zk, .ref mO, .int zd, .ref y1, .ref y2, .ref y3, .ref y4, .ref mZ])), (mY, .inl (cI, 2600, .inl eY)), (mL, .inl (cI, 512, .inl eL)), (mE, .inl (cI, 2600, .inl eE))] sz) := by
  refine Met.ofW (cc := cX12_read) (maxL := 5) (ret := (some .boolean)) (by decide) rfl ?_
  intro p e s m args below meth c s₁ B hml hv
  obtain ⟨rfl, hsz, hP, hK, hD0⟩ := hv
  have hx := B.exec
  have hb := B.bytes
  have hr := B.returns
  have hts := atoms_spec (ws := wsX12_read) B.pre
  have hown : s.vm.findClass RX12 = some m.cls := findClass_of_methodNamed B.named
  have hlocks := B.notSynchronized
  have in_X12 : ∀ w ∈ wsX120, w ∈ wsX12_read := fun _ h => List.mem_cons_of_mem _ (List.mem_append_right _ (h))
  subst hsz
  have hD := hD0.self (sz := s.heap.size)
  generalize hAe : va_A [(oM, .inr (12, [.ref mT, .int zt, .ref mS, .ref mX, .int zp, .int zf, .ref mL, .ref mB, .ref mD, .ref m1, .ref m2, .int zh, .ref mR, .int zr, .ref x1, .ref x2, .ref x3, .int zc, .ref mH, .int zy, .int za, .int zb, .int zs, .int zq, .int zw, .int ze, .ref mY, .int zn, .ref mE, .int zm, .int zl, .ref mW, .int zk, .ref mO, .int zd, .ref y1, .ref y2, .ref y3, .ref y4, .ref mZ])), (mY, .inl (cI, 2600, .inl eY)), (mL, .inl (cI, 512, .inl eL)), (mE, .inl (cI, 2600, .inl eE))] s.heap.size = A at hD ⊢
  have hA : ∀ q : Nat, s.heap.size ≤ q → A q := fun q h => by rw [← hAe]; exact Or.inr h
  have hS : va_S A s.heap s.heap [] := va_S.rf
  have hP : va_P (dC, dI) vwCl [(oM, .inr (12, [.ref mT, .int zt, .ref mS, .ref mX, .int zp, .int zf, .ref mL, .ref mB, .ref mD, .ref m1, .ref m2, .int zh, .ref mR, .int zr, .ref x1, .ref x2, .ref x3, .int zc, .ref mH, .int zy, .int za, .int zb, .int zs, .int zq, .int zw, .int ze, .ref mY, .int zn, .ref mE, .int zm, .int zl, .ref mW, .int zk, .ref mO, .int zd, .ref y1, .ref y2, .ref y3, .ref y4, .ref mZ])), (mY, .inl (cI, 2600, .inl eY)), (mL, .inl (cI, 512, .inl eL)), (mE, .inl (cI, 2600, .inl eE))] s.heap := hP
  have hl := lv_entry ([.ref oM, .int cd, .int ro]) (n := 5) (Nat.le_of_ble_eq_true rfl)
  rw [lg_entry_eq]
  generalize (lg_sl ([.ref oM, .int cd, .int ro]) ++ List.replicate (5 - (lg_sl ([.ref oM, .int cd, .int ro])).length) Slot.unset).toArray = ls at hl ⊢
  have hl : lv_has ls 5 [(0, .ref oM), (1, .int cd), (2, .int ro)] := hl
  obtain ⟨QQ, hQQ⟩ : ∃ QQ : Array Value → State → Outcome → State → Prop, QQ = va_Qi (fun (r : Int32) (u : Int32) => r = u) (fun (r : Int32) t => ∃ (zd' : Int32) (zm' : Int32) (zl' : Int32) (eE' : Nat → Int32), va_P (dC, dI) vwCl [(oM, .inr (12, [.ref mT, .int zt, .ref mS, .ref mX, .int zp, .int zf, .ref mL, .ref mB, .ref mD, .ref m1, .ref m2, .int zh, .ref mR, .int zr, .ref x1, .ref x2, .ref x3, .int zc, .ref mH, .int zy, .int za, .int zb, .int zs, .int zq, .int zw, .int ze, .ref mY, .int zn, .ref mE, .int zm', .int zl', .ref mW, .int zk, .ref mO, .int zd', .ref y1, .ref y2, .ref y3, .ref y4, .ref mZ])), (mY, .inl (cI, 2600, .inl eY)), (mL, .inl (cI, 512, .inl eL)), (mE, .inl (cI, 2600, .inl eE'))] t.heap ∧ va_D A [(oM, .inr (12, [.ref mT, .int zt, .ref mS, .ref mX, .int zp, .int zf, .ref mL, .ref mB, .ref mD, .ref m1, .ref m2, .int zh, .ref mR, .int zr, .ref x1, .ref x2, .ref x3, .int zc, .ref mH, .int zy, .int za, .int zb, .int zs, .int zq, .int zw, .int ze, .ref mY, .int zn, .ref mE, .int zm', .int zl', .ref mW, .int zk, .ref mO, .int zd', .ref y1, .ref y2, .ref y3, .ref y4, .ref mZ])), (mY, .inl (cI, 2600, .inl eY)), (mL, .inl (cI, 512, .inl eL)), (mE, .inl (cI, 2600, .inl eE'))] ∧ (0 ≤ zm'.toInt ∧ zm'.toInt ≤ 2600) ∧ (rg 0 65535 eE') ∧ (0 ≤ r.toInt ∧ r.toInt ≤ 1) ∧ (zm'.toInt ≤ zn.toInt)) A := ⟨_, rfl⟩
  rw [← hQQ]
  refine lv_aload_n hx hb dX12_read_0 rfl (lv_at hl 0 rfl) ?_
  refine lv_iconst (v := 0) hx hb dX12_read_1 (by decide) ?_
  refine va_put (D := (dC, dI)) (ci := 12) (v := .int 0) (ty := .int) (C := RX12) (T := TX12) (N := 40) hx hb hts in_X12 tyX12 tyX12_ok nmX12 hown hK hP hD hS 0 rfl rfl 29 (by decide) (hts (.fieldLink RX12 119 "TextMenderModel" "cameMany" "I") (List.mem_of_getElem? (i := 1) rfl)) (fun _ h9 => h9) rfl (by decide +kernel) rfl rfl (Nat.le_of_ble_eq_true rfl) dX12_read_2 (fun H locs hPn hDn hSn => ?_)
  clear hP hD hS
  have hP : va_P (dC, dI) vwCl [(oM, .inr (12, [.ref mT, .int zt, .ref mS, .ref mX, .int zp, .int zf, .ref mL, .ref mB, .ref mD, .ref m1, .ref m2, .int zh, .ref mR, .int zr, .ref x1, .ref x2, .ref x3, .int zc, .ref mH, .int zy, .int za, .int zb, .int zs, .int zq, .int zw, .int ze, .ref mY, .int zn, .ref mE, .int 0, .int zl, .ref mW, .int zk, .ref mO, .int zd, .ref y1, .ref y2, .ref y3, .ref y4, .ref mZ])), (mY, .inl (cI, 2600, .inl eY)), (mL, .inl (cI, 512, .inl eL)), (mE, .inl (cI, 2600, .inl eE))] H := hPn
  have hD : va_D A [(oM, .inr (12, [.ref mT, .int zt, .ref mS, .ref mX, .int zp, .int zf, .ref mL, .ref mB, .ref mD, .ref m1, .ref m2, .int zh, .ref mR, .int zr, .ref x1, .ref x2, .ref x3, .int zc, .ref mH, .int zy, .int za, .int zb, .int zs, .int zq, .int zw, .int ze, .ref mY, .int zn, .ref mE, .int 0, .int zl, .ref mW, .int zk, .ref mO, .int zd, .ref y1, .ref y2, .ref y3, .ref y4, .ref mZ])), (mY, .inl (cI, 2600, .inl eY)), (mL, .inl (cI, 512, .inl eL)), (mE, .inl (cI, 2600, .inl eE))] := hDn
  have hS := hSn
  clear hPn hDn hSn
  refine lv_iconst (v := 0) hx hb dX12_read_5 (by decide) ?_
  refine lv_istore_n (lv' := [(3, .int 0), (0, .ref oM), (1, .int cd), (2, .int ro)]) hx hb dX12_read_6 rfl hl (by decide) rfl (fun ls hl => ?_)
  have LOOP_7 : ∀ (k_7 : Nat) (p_ : Int32) (zma : Int32) (zda : Int32) (zla : Int32) (eEa : Nat → Int32) (H : Heap) (locs : List Loc) (ls : Array Slot), MSd (2608 - p_.toInt : Int) k_7 → (0 ≤ p_.toInt ∧ p_.toInt ≤ 2608) → (0 ≤ zma.toInt ∧ zma.toInt ≤ p_.toInt) → (rg 0 65535 eEa) → (zma.toInt ≤ zn.toInt) → va_P (dC, dI) vwCl [(oM, .inr (12, [.ref mT, .int zt, .ref mS, .ref mX, .int zp, .int zf, .ref mL, .ref mB, .ref mD, .ref m1, .ref m2, .int zh, .ref mR, .int zr, .ref x1, .ref x2, .ref x3, .int zc, .ref mH, .int zy, .int za, .int zb, .int zs, .int zq, .int zw, .int ze, .ref mY, .int zn, .ref mE, .int zma, .int zla, .ref mW, .int zk, .ref mO, .int zda, .ref y1, .ref y2, .ref y3, .ref y4, .ref mZ])), (mY, .inl (cI, 2600, .inl eY)), (mL, .inl (cI, 512, .inl eL)), (mE, .inl (cI, 2600, .inl eEa))] H → va_D A [(oM, .inr (12, [.ref mT, .int zt, .ref mS, .ref mX, .int zp, .int zf, .ref mL, .ref mB, .ref mD, .ref m1, .ref m2, .int zh, .ref mR, .int zr, .ref x1, .ref x2, .ref x3, .int zc, .ref mH, .int zy, .int za, .int zb, .int zs, .int zq, .int zw, .int ze, .ref mY, .int zn, .ref mE, .int zma, .int zla, .ref mW, .int zk, .ref mO, .int zda, .ref y1, .ref y2, .ref y3, .ref y4, .ref mZ])), (mY, .inl (cI, 2600, .inl eY)), (mL, .inl (cI, 512, .inl eL)), (mE, .inl (cI, 2600, .inl eEa))] → va_S A s.heap H locs → lv_has ls 5 [(3, .int p_), (0, .ref oM), (1, .int cd), (2, .int ro)] → W p l e (headSpec wsX12_read ({ frames := 2, cells := 0, slots := 0, locals := 47 } : Room)).room s m ([.ref oM, .int cd, .int ro] : List Value).toArray below meth c H locs 0 0 (MQ below QQ ([.ref oM, .int cd, .int ro] : List Value).toArray s 0 0 A) (F0 m 7 ls []) := by
    clear hP hD hS hl
    intro k_7
    induction k_7 with
    | zero =>
      intro p_ zma zda zla eEa H locs ls hm_7 g_p_ g_zma g_eEa hcb hP hD hS hl
      exact ms_0 hm_7
    | succ k_7 ih_7 =>
      intro p_ zma zda zla eEa H locs ls hm_7 g_p_ g_zma g_eEa hcb hP hD hS hl
      refine lv_iload_n hx hb dX12_read_7 rfl (lv_at hl 0 rfl) ?_
      refine lv_aload_n hx hb dX12_read_8 rfl (lv_at hl 1 rfl) ?_
      refine va_get (D := (dC, dI)) (ci := 12) (v := .int zn) (C := RX12) (T := TX12) (N := 40) hx hb hts in_X12 hown hK hP 0 rfl rfl 27 (by decide) (hts (.fieldLink RX12 91 "TextMenderModel" "byteMany" "I") (List.mem_of_getElem? (i := 2) rfl)) (fun _ h9 => h9) rfl dX12_read_9 ?_
      refine lv_icmp_ge (tgt := 89) hx hb dX12_read_12 (by decide) (fun c_1 => ?_) (fun c_1 => ?_)
      · have tc_1 : zn.toInt ≤ p_.toInt := v_le c_1
        refine lv_iconst (v := 1) hx hb dX12_read_89 (by decide) ?_
        have hP9 := hP.sub (ws' := [(oM, .inr (12, [.ref mT, .int zt, .ref mS, .ref mX, .int zp, .int zf, .ref mL, .ref mB, .ref mD, .ref m1, .ref m2, .int zh, .ref mR, .int zr, .ref x1, .ref x2, .ref x3, .int zc, .ref mH, .int zy, .int za, .int zb, .int zs, .int zq, .int zw, .int ze, .ref mY, .int zn, .ref mE, .int zma, .int zla, .ref mW, .int zk, .ref mO, .int zda, .ref y1, .ref y2, .ref y3, .ref y4, .ref mZ])), (mY, .inl (cI, 2600, .inl eY)), (mL, .inl (cI, 512, .inl eL)), (mE, .inl (cI, 2600, .inl eEa))]) [0, 1, 2, 3] rfl
        have hD9 := hD.sub (ws' := [(oM, .inr (12, [.ref mT, .int zt, .ref mS, .ref mX, .int zp, .int zf, .ref mL, .ref mB, .ref mD, .ref m1, .ref m2, .int zh, .ref mR, .int zr, .ref x1, .ref x2, .ref x3, .int zc, .ref mH, .int zy, .int za, .int zb, .int zs, .int zq, .int zw, .int ze, .ref mY, .int zn, .ref mE, .int zma, .int zla, .ref mW, .int zk, .ref mO, .int zda, .ref y1, .ref y2, .ref y3, .ref y4, .ref mZ])), (mY, .inl (cI, 2600, .inl eY)), (mL, .inl (cI, 512, .inl eL)), (mE, .inl (cI, 2600, .inl eEa))]) [0, 1, 2, 3] (by decide +kernel) rfl
        rw [hQQ]
        exact W.zret (v := 1) (ty := .boolean) hx hb hr (rfl) (fun t ht hW => ⟨⟨1, 1, rfl, rfl, ⟨zda, zma, zla, eEa, by rw [ht]; exact hP9, hD9, by omega, g_eEa, by decide, by show zma.toInt ≤ zn.toInt; omega⟩⟩, hS.F ht⟩) hS.2.2 dX12_read_90
      · have tc_1 : p_.toInt < zn.toInt := v_nle c_1
        refine lv_aload_n hx hb dX12_read_15 rfl (lv_at hl 1 rfl) ?_
        refine lv_iload_n hx hb dX12_read_16 rfl (lv_at hl 2 rfl) ?_
        refine lv_iload_n hx hb dX12_read_17 rfl (lv_at hl 0 rfl) ?_
        have hPc := hP.sub (ws' := [(oM, .inr (12, [.ref mT, .int zt, .ref mS, .ref mX, .int zp, .int zf, .ref mL, .ref mB, .ref mD, .ref m1, .ref m2, .int zh, .ref mR, .int zr, .ref x1, .ref x2, .ref x3, .int zc, .ref mH, .int zy, .int za, .int zb, .int zs, .int zq, .int zw, .int ze, .ref mY, .int zn, .ref mE, .int zma, .int zla, .ref mW, .int zk, .ref mO, .int zda, .ref y1, .ref y2, .ref y3, .ref y4, .ref mZ])), (mY, .inl (cI, 2600, .inl eY)), (mL, .inl (cI, 512, .inl eL))]) [0, 1, 2] rfl
        have hDc := hD.sub (ws' := [(oM, .inr (12, [.ref mT, .int zt, .ref mS, .ref mX, .int zp, .int zf, .ref mL, .ref mB, .ref mD, .ref m1, .ref m2, .int zh, .ref mR, .int zr, .ref x1, .ref x2, .ref x3, .int zc, .ref mH, .int zy, .int za, .int zb, .int zs, .int zq, .int zw, .int ze, .ref mY, .int zn, .ref mE, .int zma, .int zla, .ref mW, .int zk, .ref mO, .int zda, .ref y1, .ref y2, .ref y3, .ref y4, .ref mZ])), (mY, .inl (cI, 2600, .inl eY)), (mL, .inl (cI, 512, .inl eL))]) [0, 1, 2] (by decide +kernel) rfl
        have hFc := va_free (wc := [(oM, .inr (12, [.ref mT, .int zt, .ref mS, .ref mX, .int zp, .int zf, .ref mL, .ref mB, .ref mD, .ref m1, .ref m2, .int zh, .ref mR, .int zr, .ref x1, .ref x2, .ref x3, .int zc, .ref mH, .int zy, .int za, .int zb, .int zs, .int zq, .int zw, .int ze, .ref mY, .int zn, .ref mE, .int zma, .int zla, .ref mW, .int zk, .ref mO, .int zda, .ref y1, .ref y2, .ref y3, .ref y4, .ref mZ])), (mY, .inl (cI, 2600, .inl eY)), (mL, .inl (cI, 512, .inl eL))]) hD hS hA [0, 1, 2] rfl
        refine va_calli (va_runV (As := [.int cd, .int p_]) (rest := []) ⟨hx, hb, hml, hown, hts⟩ (m_X12_readAt l dC dI cI cS H.size oM mT mS mX mL mB mD m1 m2 mR x1 x2 x3 mH mY mE mW mO y1 y2 y3 y4 mZ zt zp zf zh zr zc zy za zb zs zq zw ze zn zma zla zk zda eY eL cd p_ (g_zt) (g_zp) (g_zf) (g_zh) (g_zr) (g_zc) (g_zy) (g_za) (g_zb) (g_zs) (g_zq) (g_zn) (by omega) (g_zk) (g_eY) (g_eL) (g_cd) (by omega)) (cwV 2 hts gX12_read_X12_readAt rfl rfl rfl (by decide +kernel) ⟨Nat.le_of_ble_eq_true rfl, Nat.le_of_ble_eq_true rfl⟩) ⟨fun a U g mk q => by obtain ⟨q0, q1, qP, qK, qD⟩ := q; exact ⟨q0, q1, qP, va_K.moved (u := U) (U := U.calling g mk a) (Vm.Alike.refl U.vm) qK, qD⟩, va_recv hK hPc (ci := 12) (q0 := 0) rfl rfl, fun U hU hW => ⟨rfl, by rw [hU], by rw [hU]; exact hPc, va_K.moved hW.alike hK, hDc.weaken (fun _ _ _ _ => trivial)⟩⟩ rfl rfl hl.1 rfl (lv_room (Nat.le_of_ble_eq_true rfl)) dX12_read_18 ⟨Nat.le_of_ble_eq_true rfl, Nat.le_of_ble_eq_true rfl⟩) hS (fun q _ h => hFc q h) hFc (fun r_2 u t H1 locs ht hvm hw hB hz1 hk1 hSn => ?_)
        subst hw
        obtain ⟨zd_2, hP1, hD1, hf2_0, hf2_1⟩ := hB
        rw [ht] at hP1
        obtain ⟨hPn, hDn⟩ := va_join (wr := [(mE, .inl (cI, 2600, .inl eEa))]) (w1 := [(oM, .inr (12, [.ref mT, .int zt, .ref mS, .ref mX, .int zp, .int zf, .ref mL, .ref mB, .ref mD, .ref m1, .ref m2, .int zh, .ref mR, .int zr, .ref x1, .ref x2, .ref x3, .int zc, .ref mH, .int zy, .int za, .int zb, .int zs, .int zq, .int zw, .int ze, .ref mY, .int zn, .ref mE, .int zma, .int zla, .ref mW, .int zk, .ref mO, .int zd_2, .ref y1, .ref y2, .ref y3, .ref y4, .ref mZ])), (mY, .inl (cI, 2600, .inl eY)), (mL, .inl (cI, 512, .inl eL))]) hP hD [0, 1, 2] [3] rfl rfl (by decide +kernel) (by decide +kernel) hk1 hFc hP1 hD1
        clear hP hD hS hPc hDc hFc hk1 hz1 hvm ht hP1 hD1
        generalize H1 = H at hPn hSn ⊢
        have hP : va_P (dC, dI) vwCl [(mE, .inl (cI, 2600, .inl eEa)), (oM, .inr (12, [.ref mT, .int zt, .ref mS, .ref mX, .int zp, .int zf, .ref mL, .ref mB, .ref mD, .ref m1, .ref m2, .int zh, .ref mR, .int zr, .ref x1, .ref x2, .ref x3, .int zc, .ref mH, .int zy, .int za, .int zb, .int zs, .int zq, .int zw, .int ze, .ref mY, .int zn, .ref mE, .int zma, .int zla, .ref mW, .int zk, .ref mO, .int zd_2, .ref y1, .ref y2, .ref y3, .ref y4, .ref mZ])), (mY, .inl (cI, 2600, .inl eY)), (mL, .inl (cI, 512, .inl eL))] H := hPn
        have hD : va_D A [(mE, .inl (cI, 2600, .inl eEa)), (oM, .inr (12, [.ref mT, .int zt, .ref mS, .ref mX, .int zp, .int zf, .ref mL, .ref mB, .ref mD, .ref m1, .ref m2, .int zh, .ref mR, .int zr, .ref x1, .ref x2, .ref x3, .int zc, .ref mH, .int zy, .int za, .int zb, .int zs, .int zq, .int zw, .int ze, .ref mY, .int zn, .ref mE, .int zma, .int zla, .ref mW, .int zk, .ref mO, .int zd_2, .ref y1, .ref y2, .ref y3, .ref y4, .ref mZ])), (mY, .inl (cI, 2600, .inl eY)), (mL, .inl (cI, 512, .inl eL))] := hDn
        have hS := hSn
        clear hPn hDn hSn
        refine lv_istore (lv' := [(4, .int r_2), (3, .int p_), (0, .ref oM), (1, .int cd), (2, .int ro)]) hx hb dX12_read_21 hl (by decide) rfl (fun ls hl => ?_)
        refine lv_iload hx hb dX12_read_23 (lv_at hl 0 rfl) ?_
        refine lv_if_ne (tgt := 39) hx hb dX12_read_25 (by decide) (fun c_3 => ?_) (fun c_3 => ?_)
        · have tc_3 : ¬ r_2.toInt = 0 := v_ne c_3
          refine lv_aload_n hx hb dX12_read_39 rfl (lv_at hl 2 rfl) ?_
          refine va_get (D := (dC, dI)) (ci := 12) (v := .ref mE) (C := RX12) (T := TX12) (N := 40) hx hb hts in_X12 hown hK hP 1 rfl rfl 28 (by decide) (hts (.fieldLink RX12 61 "TextMenderModel" "came" "[I") (List.mem_of_getElem? (i := 4) rfl)) (fun _ h9 => h9) rfl dX12_read_40 ?_
          refine lv_aload_n hx hb dX12_read_43 rfl (lv_at hl 2 rfl) ?_
          refine va_get (D := (dC, dI)) (ci := 12) (v := .int zma) (C := RX12) (T := TX12) (N := 40) hx hb hts in_X12 hown hK hP 1 rfl rfl 29 (by decide) (hts (.fieldLink RX12 119 "TextMenderModel" "cameMany" "I") (List.mem_of_getElem? (i := 1) rfl)) (fun _ h9 => h9) rfl dX12_read_44 ?_
          refine lv_iload hx hb dX12_read_47 (lv_at hl 0 rfl) ?_
          refine lv_if_ne (tgt := 57) hx hb dX12_read_49 (by decide) (fun c_4 => ?_) (fun c_4 => by exfalso; have tc_4 : r_2.toInt = 0 := v_eq c_4; omega)
          have tc_4 : ¬ r_2.toInt = 0 := v_ne c_4
          refine lv_aload_n hx hb dX12_read_57 rfl (lv_at hl 2 rfl) ?_
          refine va_get (D := (dC, dI)) (ci := 12) (v := .int zd_2) (C := RX12) (T := TX12) (N := 40) hx hb hts in_X12 hown hK hP 1 rfl rfl 34 (by decide) (hts (.fieldLink RX12 105 "TextMenderModel" "readLetter" "I") (List.mem_of_getElem? (i := 6) rfl)) (fun _ h9 => h9) rfl dX12_read_58 ?_
          refine va_iast hx hb hK hP hD hS 0 0 rfl rfl (v_in (by omega)) dX12_read_61 (fun H locs hPn hDn hSn => ?_)
          clear hP hD hS
          have hP : va_P (dC, dI) vwCl [(mE, .inl (cI, 2600, .inl (upd eEa (zma : Int32).toNatClampNeg zd_2))), (oM, .inr (12, [.ref mT, .int zt, .ref mS, .ref mX, .int zp, .int zf, .ref mL, .ref mB, .ref mD, .ref m1, .ref m2, .int zh, .ref mR, .int zr, .ref x1, .ref x2, .ref x3, .int zc, .ref mH, .int zy, .int za, .int zb, .int zs, .int zq, .int zw, .int ze, .ref mY, .int zn, .ref mE, .int zma, .int zla, .ref mW, .int zk, .ref mO, .int zd_2, .ref y1, .ref y2, .ref y3, .ref y4, .ref mZ])), (mY, .inl (cI, 2600, .inl eY)), (mL, .inl (cI, 512, .inl eL))] H := hPn
          have hD : va_D A [(mE, .inl (cI, 2600, .inl (upd eEa (zma : Int32).toNatClampNeg zd_2))), (oM, .inr (12, [.ref mT, .int zt, .ref mS, .ref mX, .int zp, .int zf, .ref mL, .ref mB, .ref mD, .ref m1, .ref m2, .int zh, .ref mR, .int zr, .ref x1, .ref x2, .ref x3, .int zc, .ref mH, .int zy, .int za, .int zb, .int zs, .int zq, .int zw, .int ze, .ref mY, .int zn, .ref mE, .int zma, .int zla, .ref mW, .int zk, .ref mO, .int zd_2, .ref y1, .ref y2, .ref y3, .ref y4, .ref mZ])), (mY, .inl (cI, 2600, .inl eY)), (mL, .inl (cI, 512, .inl eL))] := hDn
          have hS := hSn
          clear hPn hDn hSn
          obtain ⟨f_5, ef_5⟩ : ∃ g : Nat → Int32, g = upd eEa (zma : Int32).toNatClampNeg zd_2 := ⟨_, rfl⟩
          rw [← ef_5] at hP hD
          have g_f5 : rg 0 65535 f_5 := rg_upd ef_5 g_eEa (by omega)
          refine lv_aload_n hx hb dX12_read_62 rfl (lv_at hl 2 rfl) ?_
          refine lv_dup hx hb dX12_read_63 rfl ?_
          refine va_get (D := (dC, dI)) (ci := 12) (v := .int zma) (C := RX12) (T := TX12) (N := 40) hx hb hts in_X12 hown hK hP 1 rfl rfl 29 (by decide) (hts (.fieldLink RX12 119 "TextMenderModel" "cameMany" "I") (List.mem_of_getElem? (i := 1) rfl)) (fun _ h9 => h9) rfl dX12_read_64 ?_
          refine lv_iconst (v := 1) hx hb dX12_read_67 (by decide) ?_
          refine lv_iadd hx hb dX12_read_68 ?_
          refine lv_topi (fun x_6 ex_6 => ?_)
          have tx_6 : x_6.toInt = zma.toInt + 1 := v_add ex_6 (by show -2147483648 ≤ zma.toInt + 1; omega) (by show zma.toInt + 1 < 2147483648; omega)
          refine va_put (D := (dC, dI)) (ci := 12) (v := .int x_6) (ty := .int) (C := RX12) (T := TX12) (N := 40) hx hb hts in_X12 tyX12 tyX12_ok nmX12 hown hK hP hD hS 1 rfl rfl 29 (by decide) (hts (.fieldLink RX12 119 "TextMenderModel" "cameMany" "I") (List.mem_of_getElem? (i := 1) rfl)) (fun _ h9 => h9) rfl (by decide +kernel) rfl rfl (Nat.le_of_ble_eq_true rfl) dX12_read_69 (fun H locs hPn hDn hSn => ?_)
          clear hP hD hS
          have hP : va_P (dC, dI) vwCl [(mE, .inl (cI, 2600, .inl f_5)), (oM, .inr (12, [.ref mT, .int zt, .ref mS, .ref mX, .int zp, .int zf, .ref mL, .ref mB, .ref mD, .ref m1, .ref m2, .int zh, .ref mR, .int zr, .ref x1, .ref x2, .ref x3, .int zc, .ref mH, .int zy, .int za, .int zb, .int zs, .int zq, .int zw, .int ze, .ref mY, .int zn, .ref mE, .int x_6, .int zla, .ref mW, .int zk, .ref mO, .int zd_2, .ref y1, .ref y2, .ref y3, .ref y4, .ref mZ])), (mY, .inl (cI, 2600, .inl eY)), (mL, .inl (cI, 512, .inl eL))] H := hPn
          have hD : va_D A [(mE, .inl (cI, 2600, .inl f_5)), (oM, .inr (12, [.ref mT, .int zt, .ref mS, .ref mX, .int zp, .int zf, .ref mL, .ref mB, .ref mD, .ref m1, .ref m2, .int zh, .ref mR, .int zr, .ref x1, .ref x2, .ref x3, .int zc, .ref mH, .int zy, .int za, .int zb, .int zs, .int zq, .int zw, .int ze, .ref mY, .int zn, .ref mE, .int x_6, .int zla, .ref mW, .int zk, .ref mO, .int zd_2, .ref y1, .ref y2, .ref y3, .ref y4, .ref mZ])), (mY, .inl (cI, 2600, .inl eY)), (mL, .inl (cI, 512, .inl eL))] := hDn
          have hS := hSn
          clear hPn hDn hSn
          refine lv_iload_n hx hb dX12_read_72 rfl (lv_at hl 1 rfl) ?_
          refine lv_iload hx hb dX12_read_73 (lv_at hl 0 rfl) ?_
          refine lv_if_ne (tgt := 82) hx hb dX12_read_75 (by decide) (fun c_7 => ?_) (fun c_7 => by exfalso; have tc_7 : r_2.toInt = 0 := v_eq c_7; omega)
          have tc_7 : ¬ r_2.toInt = 0 := v_ne c_7
          refine lv_iload hx hb dX12_read_82 (lv_at hl 0 rfl) ?_
          refine lv_iadd hx hb dX12_read_84 ?_
          refine lv_topi (fun x_8 ex_8 => ?_)
          have tx_8 : x_8.toInt = p_.toInt + r_2.toInt := v_add ex_8 (by show -2147483648 ≤ p_.toInt + r_2.toInt; omega) (by show p_.toInt + r_2.toInt < 2147483648; omega)
          refine lv_istore_n (lv' := [(3, .int x_8), (4, .int r_2), (0, .ref oM), (1, .int cd), (2, .int ro)]) hx hb dX12_read_85 rfl hl (by decide) rfl (fun ls hl => ?_)
          refine lv_goto (tgt := 7) hx hb dX12_read_86 (by decide) ?_
          exact ih_7 x_8 x_6 zd_2 zla f_5 _ _ _ (ms_lt hm_7 (by show ((2608 - x_8.toInt : Int)) < 2608 - p_.toInt; omega) (by show (0 : Int) < 2608 - p_.toInt; omega)) (by show 0 ≤ x_8.toInt ∧ x_8.toInt ≤ 2608; omega) (by show 0 ≤ x_6.toInt ∧ x_6.toInt ≤ x_8.toInt; omega) (g_f5) (by show x_6.toInt ≤ zn.toInt; omega) (hP.sub [1, 2, 3, 0] rfl) (hD.sub [1, 2, 3, 0] (by decide +kernel) rfl) hS (lv_sub hl [0, 2, 3, 4] rfl)
        · have tc_3 : r_2.toInt = 0 := v_eq c_3
          refine lv_iload_n hx hb dX12_read_28 rfl (lv_at hl 4 rfl) ?_
          refine lv_if_ne (tgt := 39) hx hb dX12_read_29 (by decide) (fun c_9 => ?_) (fun c_9 => ?_)
          · have tc_9 : ¬ ro.toInt = 0 := v_ne c_9
            refine lv_aload_n hx hb dX12_read_39 rfl (lv_at hl 2 rfl) ?_
            refine va_get (D := (dC, dI)) (ci := 12) (v := .ref mE) (C := RX12) (T := TX12) (N := 40) hx hb hts in_X12 hown hK hP 1 rfl rfl 28 (by decide) (hts (.fieldLink RX12 61 "TextMenderModel" "came" "[I") (List.mem_of_getElem? (i := 4) rfl)) (fun _ h9 => h9) rfl dX12_read_40 ?_
            refine lv_aload_n hx hb dX12_read_43 rfl (lv_at hl 2 rfl) ?_
            refine va_get (D := (dC, dI)) (ci := 12) (v := .int zma) (C := RX12) (T := TX12) (N := 40) hx hb hts in_X12 hown hK hP 1 rfl rfl 29 (by decide) (hts (.fieldLink RX12 119 "TextMenderModel" "cameMany" "I") (List.mem_of_getElem? (i := 1) rfl)) (fun _ h9 => h9) rfl dX12_read_44 ?_
            refine lv_iload hx hb dX12_read_47 (lv_at hl 0 rfl) ?_
            refine lv_if_ne (tgt := 57) hx hb dX12_read_49 (by decide) (fun c_10 => by exfalso; have tc_10 : ¬ r_2.toInt = 0 := v_ne c_10; omega) (fun c_10 => ?_)
            have tc_10 : r_2.toInt = 0 := v_eq c_10
            refine lv_ldc hx hb hown (hts (.constant RX12 126 (65533)) (List.mem_of_getElem? (i := 5) rfl)) dX12_read_52 ?_
            refine lv_goto (tgt := 61) hx hb dX12_read_54 (by decide) ?_
            refine va_iast hx hb hK hP hD hS 0 0 rfl rfl (v_in (by omega)) dX12_read_61 (fun H locs hPn hDn hSn => ?_)
            clear hP hD hS
            have hP : va_P (dC, dI) vwCl [(mE, .inl (cI, 2600, .inl (upd eEa (zma : Int32).toNatClampNeg 65533))), (oM, .inr (12, [.ref mT, .int zt, .ref mS, .ref mX, .int zp, .int zf, .ref mL, .ref mB, .ref mD, .ref m1, .ref m2, .int zh, .ref mR, .int zr, .ref x1, .ref x2, .ref x3, .int zc, .ref mH, .int zy, .int za, .int zb, .int zs, .int zq, .int zw, .int ze, .ref mY, .int zn, .ref mE, .int zma, .int zla, .ref mW, .int zk, .ref mO, .int zd_2, .ref y1, .ref y2, .ref y3, .ref y4, .ref mZ])), (mY, .inl (cI, 2600, .inl eY)), (mL, .inl (cI, 512, .inl eL))] H := hPn
            have hD : va_D A [(mE, .inl (cI, 2600, .inl (upd eEa (zma : Int32).toNatClampNeg 65533))), (oM, .inr (12, [.ref mT, .int zt, .ref mS, .ref mX, .int zp, .int zf, .ref mL, .ref mB, .ref mD, .ref m1, .ref m2, .int zh, .ref mR, .int zr, .ref x1, .ref x2, .ref x3, .int zc, .ref mH, .int zy, .int za, .int zb, .int zs, .int zq, .int zw, .int ze, .ref mY, .int zn, .ref mE, .int zma, .int zla, .ref mW, .int zk, .ref mO, .int zd_2, .ref y1, .ref y2, .ref y3, .ref y4, .ref mZ])), (mY, .inl (cI, 2600, .inl eY)), (mL, .inl (cI, 512, .inl eL))] := hDn
            have hS := hSn
            clear hPn hDn hSn
            obtain ⟨f_11, ef_11⟩ : ∃ g : Nat → Int32, g = upd eEa (zma : Int32).toNatClampNeg 65533 := ⟨_, rfl⟩
            rw [← ef_11] at hP hD
            have g_f11 : rg 0 65535 f_11 := rg_upd ef_11 g_eEa (by decide)
            refine lv_aload_n hx hb dX12_read_62 rfl (lv_at hl 2 rfl) ?_
            refine lv_dup hx hb dX12_read_63 rfl ?_
            refine va_get (D := (dC, dI)) (ci := 12) (v := .int zma) (C := RX12) (T := TX12) (N := 40) hx hb hts in_X12 hown hK hP 1 rfl rfl 29 (by decide) (hts (.fieldLink RX12 119 "TextMenderModel" "cameMany" "I") (List.mem_of_getElem? (i := 1) rfl)) (fun _ h9 => h9) rfl dX12_read_64 ?_
            refine lv_iconst (v := 1) hx hb dX12_read_67 (by decide) ?_
            refine lv_iadd hx hb dX12_read_68 ?_
            refine lv_topi (fun x_12 ex_12 => ?_)
            have tx_12 : x_12.toInt = zma.toInt + 1 := v_add ex_12 (by show -2147483648 ≤ zma.toInt + 1; omega) (by show zma.toInt + 1 < 2147483648; omega)
            refine va_put (D := (dC, dI)) (ci := 12) (v := .int x_12) (ty := .int) (C := RX12) (T := TX12) (N := 40) hx hb hts in_X12 tyX12 tyX12_ok nmX12 hown hK hP hD hS 1 rfl rfl 29 (by decide) (hts (.fieldLink RX12 119 "TextMenderModel" "cameMany" "I") (List.mem_of_getElem? (i := 1) rfl)) (fun _ h9 => h9) rfl (by decide +kernel) rfl rfl (Nat.le_of_ble_eq_true rfl) dX12_read_69 (fun H locs hPn hDn hSn => ?_)
            clear hP hD hS
            have hP : va_P (dC, dI) vwCl [(mE, .inl (cI, 2600, .inl f_11)), (oM, .inr (12, [.ref mT, .int zt, .ref mS, .ref mX, .int zp, .int zf, .ref mL, .ref mB, .ref mD, .ref m1, .ref m2, .int zh, .ref mR, .int zr, .ref x1, .ref x2, .ref x3, .int zc, .ref mH, .int zy, .int za, .int zb, .int zs, .int zq, .int zw, .int ze, .ref mY, .int zn, .ref mE, .int x_12, .int zla, .ref mW, .int zk, .ref mO, .int zd_2, .ref y1, .ref y2, .ref y3, .ref y4, .ref mZ])), (mY, .inl (cI, 2600, .inl eY)), (mL, .inl (cI, 512, .inl eL))] H := hPn
            have hD : va_D A [(mE, .inl (cI, 2600, .inl f_11)), (oM, .inr (12, [.ref mT, .int zt, .ref mS, .ref mX, .int zp, .int zf, .ref mL, .ref mB, .ref mD, .ref m1, .ref m2, .int zh, .ref mR, .int zr, .ref x1, .ref x2, .ref x3, .int zc, .ref mH, .int zy, .int za, .int zb, .int zs, .int zq, .int zw, .int ze, .ref mY, .int zn, .ref mE, .int x_12, .int zla, .ref mW, .int zk, .ref mO, .int zd_2, .ref y1, .ref y2, .ref y3, .ref y4, .ref mZ])), (mY, .inl (cI, 2600, .inl eY)), (mL, .inl (cI, 512, .inl eL))] := hDn
            have hS := hSn
            clear hPn hDn hSn
            refine lv_iload_n hx hb dX12_read_72 rfl (lv_at hl 1 rfl) ?_
            refine lv_iload hx hb dX12_read_73 (lv_at hl 0 rfl) ?_
            refine lv_if_ne (tgt := 82) hx hb dX12_read_75 (by decide) (fun c_13 => by exfalso; have tc_13 : ¬ r_2.toInt = 0 := v_ne c_13; omega) (fun c_13 => ?_)
            have tc_13 : r_2.toInt = 0 := v_eq c_13
            refine lv_iconst (v := 1) hx hb dX12_read_78 (by decide) ?_
            refine lv_goto (tgt := 84) hx hb dX12_read_79 (by decide) ?_
            refine lv_iadd hx hb dX12_read_84 ?_
            refine lv_topi (fun x_14 ex_14 => ?_)
            have tx_14 : x_14.toInt = p_.toInt + 1 := v_add ex_14 (by show -2147483648 ≤ p_.toInt + 1; omega) (by show p_.toInt + 1 < 2147483648; omega)
            refine lv_istore_n (lv' := [(3, .int x_14), (4, .int r_2), (0, .ref oM), (1, .int cd), (2, .int ro)]) hx hb dX12_read_85 rfl hl (by decide) rfl (fun ls hl => ?_)
            refine lv_goto (tgt := 7) hx hb dX12_read_86 (by decide) ?_
            exact ih_7 x_14 x_12 zd_2 zla f_11 _ _ _ (ms_lt hm_7 (by show ((2608 - x_14.toInt : Int)) < 2608 - p_.toInt; omega) (by show (0 : Int) < 2608 - p_.toInt; omega)) (by show 0 ≤ x_14.toInt ∧ x_14.toInt ≤ 2608; omega) (by show 0 ≤ x_12.toInt ∧ x_12.toInt ≤ x_14.toInt; omega) (g_f11) (by show x_12.toInt ≤ zn.toInt; omega) (hP.sub [1, 2, 3, 0] rfl) (hD.sub [1, 2, 3, 0] (by decide +kernel) rfl) hS (lv_sub hl [0, 2, 3, 4] rfl)
          · have tc_9 : ro.toInt = 0 := v_eq c_9
            refine lv_aload_n hx hb dX12_read_32 rfl (lv_at hl 2 rfl) ?_
            refine lv_iload_n hx hb dX12_read_33 rfl (lv_at hl 1 rfl) ?_
            refine va_put (D := (dC, dI)) (ci := 12) (v := .int p_) (ty := .int) (C := RX12) (T := TX12) (N := 40) hx hb hts in_X12 tyX12 tyX12_ok nmX12 hown hK hP hD hS 1 rfl rfl 30 (by decide) (hts (.fieldLink RX12 102 "TextMenderModel" "faultAt" "I") (List.mem_of_getElem? (i := 3) rfl)) (fun _ h9 => h9) rfl (by decide +kernel) rfl rfl (Nat.le_of_ble_eq_true rfl) dX12_read_34 (fun H locs hPn hDn hSn => ?_)
            clear hP hD hS
            have hP : va_P (dC, dI) vwCl [(mE, .inl (cI, 2600, .inl eEa)), (oM, .inr (12, [.ref mT, .int zt, .ref mS, .ref mX, .int zp, .int zf, .ref mL, .ref mB, .ref mD, .ref m1, .ref m2, .int zh, .ref mR, .int zr, .ref x1, .ref x2, .ref x3, .int zc, .ref mH, .int zy, .int za, .int zb, .int zs, .int zq, .int zw, .int ze, .ref mY, .int zn, .ref mE, .int zma, .int p_, .ref mW, .int zk, .ref mO, .int zd_2, .ref y1, .ref y2, .ref y3, .ref y4, .ref mZ])), (mY, .inl (cI, 2600, .inl eY)), (mL, .inl (cI, 512, .inl eL))] H := hPn
            have hD : va_D A [(mE, .inl (cI, 2600, .inl eEa)), (oM, .inr (12, [.ref mT, .int zt, .ref mS, .ref mX, .int zp, .int zf, .ref mL, .ref mB, .ref mD, .ref m1, .ref m2, .int zh, .ref mR, .int zr, .ref x1, .ref x2, .ref x3, .int zc, .ref mH, .int zy, .int za, .int zb, .int zs, .int zq, .int zw, .int ze, .ref mY, .int zn, .ref mE, .int zma, .int p_, .ref mW, .int zk, .ref mO, .int zd_2, .ref y1, .ref y2, .ref y3, .ref y4, .ref mZ])), (mY, .inl (cI, 2600, .inl eY)), (mL, .inl (cI, 512, .inl eL))] := hDn
            have hS := hSn
            clear hPn hDn hSn
            refine lv_iconst (v := 0) hx hb dX12_read_37 (by decide) ?_
            have hP9 := hP.sub (ws' := [(oM, .inr (12, [.ref mT, .int zt, .ref mS, .ref mX, .int zp, .int zf, .ref mL, .ref mB, .ref mD, .ref m1, .ref m2, .int zh, .ref mR, .int zr, .ref x1, .ref x2, .ref x3, .int zc, .ref mH, .int zy, .int za, .int zb, .int zs, .int zq, .int zw, .int ze, .ref mY, .int zn, .ref mE, .int zma, .int p_, .ref mW, .int zk, .ref mO, .int zd_2, .ref y1, .ref y2, .ref y3, .ref y4, .ref mZ])), (mY, .inl (cI, 2600, .inl eY)), (mL, .inl (cI, 512, .inl eL)), (mE, .inl (cI, 2600, .inl eEa))]) [1, 2, 3, 0] rfl
            have hD9 := hD.sub (ws' := [(oM, .inr (12, [.ref mT, .int zt, .ref mS, .ref mX, .int zp, .int zf, .ref mL, .ref mB, .ref mD, .ref m1, .ref m2, .int zh, .ref mR, .int zr, .ref x1, .ref x2, .ref x3, .int zc, .ref mH, .int zy, .int za, .int zb, .int zs, .int zq, .int zw, .int ze, .ref mY, .int zn, .ref mE, .int zma, .int p_, .ref mW, .int zk, .ref mO, .int zd_2, .ref y1, .ref y2, .ref y3, .ref y4, .ref mZ])), (mY, .inl (cI, 2600, .inl eY)), (mL, .inl (cI, 512, .inl eL)), (mE, .inl (cI, 2600, .inl eEa))]) [1, 2, 3, 0] (by decide +kernel) rfl
            rw [hQQ]
            exact W.zret (v := 0) (ty := .boolean) hx hb hr (rfl) (fun t ht hW => ⟨⟨0, 0, rfl, rfl, ⟨zd_2, zma, p_, eEa, by rw [ht]; exact hP9, hD9, by omega, g_eEa, by decide, by show zma.toInt ≤ zn.toInt; omega⟩⟩, hS.F ht⟩) hS.2.2 dX12_read_38
  exact LOOP_7 _ 0 0 zd zl eE _ _ _ (ms_s _) (by decide) (by show 0 ≤ (0 : Int) ∧ (0 : Int) ≤ 0; omega) (g_eE) (by show 0 ≤ zn.toInt; omega) hP hD hS (lv_sub hl [0, 1, 2, 3] rfl)

set_option maxHeartbeats 40000000 in
set_option maxRecDepth 100000 in
theorem m_X12_does (l : Launch) (dC : Nat → ClassId) (dI : Nat → Nat → Nat) (cI cS : ClassId) (sz : Nat) (oM : Nat) (rw : Nat) (mT : Nat) (mS : Nat) (mX : Nat) (mL : Nat) (mB : Nat) (mD : Nat) (m1 : Nat) (m2 : Nat) (mR : Nat) (x1 : Nat) (x2 : Nat) (x3 : Nat) (mH : Nat) (mY : Nat) (mE : Nat) (mW : Nat) (mO : Nat) (y1 : Nat) (y2 : Nat) (y3 : Nat) (y4 : Nat) (mZ : Nat) (cw : Nat) (zt : Int32) (zp : Int32) (zf : Int32) (zh : Int32) (zr : Int32) (zc : Int32) (zy : Int32) (za : Int32) (zb : Int32) (zs : Int32) (zq : Int32) (zw : Int32) (ze : Int32) (zn : Int32) (zm : Int32) (zl : Int32) (zk : Int32) (zd : Int32) (eY : Nat → Int32) (eB : Nat → Int32) (eL : Nat → Int32) (eE : Nat → Int32) (fr : Nat → Int32) (a : Int32) (b : Int32) (n : Int32) (g_zt : 0 ≤ zt.toInt ∧ zt.toInt ≤ 900) (g_zp : 0 ≤ zp.toInt ∧ zp.toInt ≤ 20) (g_zf : 0 ≤ zf.toInt ∧ zf.toInt ≤ 19) (g_zh : 0 ≤ zh.toInt ∧ zh.toInt ≤ 6) (g_zr : 0 ≤ zr.toInt ∧ zr.toInt ≤ 258) (g_zc : 0 ≤ zc.toInt ∧ zc.toInt ≤ 300) (g_zy : 0 ≤ zy.toInt ∧ zy.toInt ≤ 65536) (g_za : 0 ≤ za.toInt ∧ za.toInt ≤ 5) (g_zb : 0 ≤ zb.toInt ∧ zb.toInt ≤ 5) (g_zs : 0 ≤ zs.toInt ∧ zs.toInt ≤ 2000000) (g_zq : -1 ≤ zq.toInt ∧ zq.toInt ≤ 2000000) (g_zn : 0 ≤ zn.toInt ∧ zn.toInt ≤ 2600) (g_zm : 0 ≤ zm.toInt ∧ zm.toInt ≤ 2600) (g_zk : 0 ≤ zk.toInt ∧ zk.toInt ≤ 300) (g_eY : rg 0 255 eY) (g_eB : rg (-1) 255 eB) (g_eL : rg (-1) 65535 eL) (g_eE : rg 0 65535 eE) (g_fr : rg 0 65535 fr) (g_a : 0 ≤ a.toInt ∧ a.toInt ≤ 5) (g_b : 0 ≤ b.toInt ∧ b.toInt ≤ 5) (g_n : 0 ≤ n.toInt ∧ n.toInt ≤ 300) (hcw : n.toInt ≤ (cw : Int)) (hcw2 : cw ≤ 6300) : Met l yX12_does wsX12_does ({ frames := 3, cells := 0, slots := 0, locals := 71 } : Room) (va_Pc [.ref oM, .int a, .int b, .ref rw, .int n] (fun U => U.heap.size = sz ∧ va_P (dC, dI) vwCl [(oM, .inr (12, [.ref mT, .int zt, .ref mS, .ref mX, .int zp, .int zf, .ref mL, .ref mB, .ref mD, .ref m1, .ref m2, .int zh, .ref mR, .int zr, .ref x1, .ref x2, .ref x3, .int zc, .ref mH, .int zy, .int za, .int zb, .int zs, .int zq, .int zw, .int ze, .ref mY, .int zn, .ref mE, .int zm, .int zl, .ref mW, .int zk, .ref mO, .int zd, .ref y1, .ref y2, .ref y3, .ref y4, .ref mZ])), (mY, .inl (cI, 2600, .inl eY)), (mB, .inl (cS, 131072, .inl eB)), (mL, .inl (cI, 512, .inl eL)), (mE, .inl (cI, 2600, .inl eE)), (rw, .inl (cI, cw, .inl fr))] U.heap ∧ va_K (dC, dI) vwCl [(cI, .int), (cS, .short)] U ∧ va_D (fun _ => True) [(oM, .inr (12, [.ref mT, .int zt, .ref mS, .ref mX, .int zp, .int zf, .ref mL, .ref mB, .ref mD, .ref m1, .ref m2, .int zh, .ref mR, .int zr, .ref x1, .ref x2, .ref x3, .int zc, .ref mH, .int zy, .int za, .int zb, .int zs, .int zq, .int zw, .int ze, .ref mY, .int zn, .ref mE, .int zm, .int zl, .ref mW, .int zk, .ref mO, .int zd, .ref y1, .ref y2, .ref y3, .ref y4, .ref mZ])), (mY, .inl (cI, 2600, .inl eY)), (mB, .inl (cS, 131072, .inl eB)), (mL, .inl (cI, 512, .inl eL)), (mE, .inl (cI, 2600, .inl eE)), (rw, .inl (cI, cw, .inl fr))])) (va_Qi (fun (r : Int32) (u : Int32) => r = u) (fun (r : Int32) t => ∃ (zn' : Int32) (eY' : Nat → Int32) (zd' : Int32) (zm' : Int32) (zl' : Int32) (eE' : Nat → Int32), va_P (dC, dI) vwCl [(oM, .inr (12, [.ref mT, .int zt, .ref mS, .ref mX, .int zp, .int zf, .ref mL, .ref mB, .ref mD, .ref m1, .ref m2, .int zh, .ref mR, .int zr, .ref x1, .ref x2, .ref x3, .int zc, .ref mH, .int zy, .int za, .int zb, .int zs, .int zq, .int zw, .int ze, .ref mY, .int zn', .ref mE, .int zm', .int zl', .ref mW, .int zk, .ref mO, .int zd', .ref y1, .ref y2, .ref y3, .ref y4, .ref mZ])), (mY, .inl (cI, 2600, .inl eY')), (mB, .inl (cS, 131072, .inl eB)), (mL, .inl (cI, 512, .inl eL)), (mE, .inl (cI, 2600, .inl eE')), (rw, .inl (cI, cw, .inl fr))] t.heap ∧ va_D (va_A [(oM, .inr (12, [.ref mT, .int zt, .ref mS, .ref mX, .int zp, .int zf, .ref mL, .ref mB, .ref mD, .ref m1, .ref m2, .int zh, .ref mR, .int zr, .ref x1, .ref x2, .ref x3, .int zc, .ref mH, .int zy, .int za, .int zb, .int zs, .int zq, .int zw, .int ze, .ref mY, .int zn, .ref mE, .int zm, .int zl, .ref mW, .int zk, .ref mO, .int zd, .ref y1, .ref y2, .ref y3, .ref y4, .ref mZ])), (mY, .inl (cI, 2600, .inl eY)), (mB, .inl (cS, 131072, .inl eB)), (mL, .inl (cI, 512, .inl eL)), (mE, .inl (cI, 2600, .inl eE)), (rw, .inl (cI, cw, .inl fr))] sz) [(oM, .inr (12, [.ref mT, .int zt, .ref mS, .ref mX, .int zp, .int zf, .ref mL, .ref mB, .ref mD, .ref m1, .ref m2, .int zh, .ref mR, .int zr, .ref x1, .ref x2, .ref x3, .int zc, .ref mH, .int zy, .int za, .int zb, .int zs, .int zq, .int zw, .int ze, .ref mY, .int zn', .ref mE, .int zm', .int zl', .ref mW, .int zk, .ref mO, .int zd', .ref y1, .ref y2, .ref y3, .ref y4, .ref mZ])), (mY, .inl (cI, 2600, .inl eY')), (mB, .inl (cS, 131072, .inl eB)), (mL, .inl (cI, 512, .inl eL)), (mE, .inl (cI, 2600, .inl eE')), (rw, .inl (cI, cw, .inl fr))] ∧ (0 ≤ zn'.toInt ∧ zn'.toInt ≤ 2600) ∧ (rg 0 255 eY') ∧ (0 ≤ zm'.toInt ∧ zm'.toInt ≤ 2600) ∧ (rg 0 65535 eE') ∧ (0 ≤ r.toInt ∧ r.toInt ≤ 1) ∧ (r.toInt = 0 ∨ zm'.toInt ≤ 300)) (va_A [(oM, .inr (12, [.ref mT, .int zt, .ref mS, .ref mX, .int zp, .int zf, .ref mL, .ref mB, .ref mD, .ref m1, .ref m2, .int zh, .ref mR, .int zr, .ref x1, .ref x2, .ref x3, .int zc, .ref mH, .int zy, .int za, .int zb, .int zs, .int zq, .int zw, .int ze, .ref mY, .int zn, .ref mE, .int zm, .int zl, .ref mW, .int zk, .ref mO, .int zd, .ref y1, .ref y2, .ref y3, .ref y4, .ref mZ])), (mY, .inl (cI, 2600, .inl eY)), (mB, .inl (cS, 131072, .inl eB)), (mL, .inl (cI, 512, .inl eL)), (mE, .inl (cI, 2600, .inl eE)), (rw, .inl (cI, cw, .inl fr))] sz)) 0 0 (va_A [(oM, .inr (12, [.ref mT, .int zt, .ref mS, .ref mX, .int zp, .int zf, .ref mL, .ref mB, .ref mD, .ref m1, .ref m2, .int zh, .ref mR, .int zr, .ref x1, .ref x2, .ref x3, .int zc, .ref mH, .int zy, .int za, .int zb, .int zs, .int zq, .int zw, .int ze, .ref mY, .int zn, .ref mE, .int zm, .int zl, .ref mW, .int zk, .ref mO, .int zd, .ref y1, .ref y2, .ref y3, .ref y4, .ref mZ])), (mY, .inl (cI, 2600, .inl eY)), (mB, .inl (cS, 131072, .inl eB)), (mL, .inl (cI, 512, .inl eL)), (mE, .inl (cI, 2600, .inl eE)), (rw, .inl (cI, cw, .inl fr))] sz) := by
  refine Met.ofW (cc := cX12_does) (maxL := 5) (ret := (some .boolean)) (by decide) rfl ?_
  intro p e s m args below meth c s₁ B hml hv
  obtain ⟨rfl, hsz, hP, hK, hD0⟩ := hv
  have hx := B.exec
  have hb := B.bytes
  have hr := B.returns
  have hts := atoms_spec (ws := wsX12_does) B.pre
  have hown : s.vm.findClass RX12 = some m.cls := findClass_of_methodNamed B.named
  have hlocks := B.notSynchronized
  have in_X12 : ∀ w ∈ wsX120, w ∈ wsX12_does := fun _ h => List.mem_cons_of_mem _ (List.mem_append_right _ (h))
  subst hsz
  have hD := hD0.self (sz := s.heap.size)
  generalize hAe : va_A [(oM, .inr (12, [.ref mT, .int zt, .ref mS, .ref mX, .int zp, .int zf, .ref mL, .ref mB, .ref mD, .ref m1, .ref m2, .int zh, .ref mR, .int zr, .ref x1, .ref x2, .ref x3, .int zc, .ref mH, .int zy, .int za, .int zb, .int zs, .int zq, .int zw, .int ze, .ref mY, .int zn, .ref mE, .int zm, .int zl, .ref mW, .int zk, .ref mO, .int zd, .ref y1, .ref y2, .ref y3, .ref y4, .ref mZ])), (mY, .inl (cI, 2600, .inl eY)), (mB, .inl (cS, 131072, .inl eB)), (mL, .inl (cI, 512, .inl eL)), (mE, .inl (cI, 2600, .inl eE)), (rw, .inl (cI, cw, .inl fr))] s.heap.size = A at hD ⊢
  have hA : ∀ q : Nat, s.heap.size ≤ q → A q := fun q h => by rw [← hAe]; exact Or.inr h
  have hS : va_S A s.heap s.heap [] := va_S.rf
  have hP : va_P (dC, dI) vwCl [(oM, .inr (12, [.ref mT, .int zt, .ref mS, .ref mX, .int zp, .int zf, .ref mL, .ref mB, .ref mD, .ref m1, .ref m2, .int zh, .ref mR, .int zr, .ref x1, .ref x2, .ref x3, .int zc, .ref mH, .int zy, .int za, .int zb, .int zs, .int zq, .int zw, .int ze, .ref mY, .int zn, .ref mE, .int zm, .int zl, .ref mW, .int zk, .ref mO, .int zd, .ref y1, .ref y2, .ref y3, .ref y4, .ref mZ])), (mY, .inl (cI, 2600, .inl eY)), (mB, .inl (cS, 131072, .inl eB)), (mL, .inl (cI, 512, .inl eL)), (mE, .inl (cI, 2600, .inl eE)), (rw, .inl (cI, cw, .inl fr))] s.heap := hP
  have hl := lv_entry ([.ref oM, .int a, .int b, .ref rw, .int n]) (n := 5) (Nat.le_of_ble_eq_true rfl)
  rw [lg_entry_eq]
  generalize (lg_sl ([.ref oM, .int a, .int b, .ref rw, .int n]) ++ List.replicate (5 - (lg_sl ([.ref oM, .int a, .int b, .ref rw, .int n])).length) Slot.unset).toArray = ls at hl ⊢
  have hl : lv_has ls 5 [(0, .ref oM), (1, .int a), (2, .int b), (3, .ref rw), (4, .int n)] := hl
  obtain ⟨QQ, hQQ⟩ : ∃ QQ : Array Value → State → Outcome → State → Prop, QQ = va_Qi (fun (r : Int32) (u : Int32) => r = u) (fun (r : Int32) t => ∃ (zn' : Int32) (eY' : Nat → Int32) (zd' : Int32) (zm' : Int32) (zl' : Int32) (eE' : Nat → Int32), va_P (dC, dI) vwCl [(oM, .inr (12, [.ref mT, .int zt, .ref mS, .ref mX, .int zp, .int zf, .ref mL, .ref mB, .ref mD, .ref m1, .ref m2, .int zh, .ref mR, .int zr, .ref x1, .ref x2, .ref x3, .int zc, .ref mH, .int zy, .int za, .int zb, .int zs, .int zq, .int zw, .int ze, .ref mY, .int zn', .ref mE, .int zm', .int zl', .ref mW, .int zk, .ref mO, .int zd', .ref y1, .ref y2, .ref y3, .ref y4, .ref mZ])), (mY, .inl (cI, 2600, .inl eY')), (mB, .inl (cS, 131072, .inl eB)), (mL, .inl (cI, 512, .inl eL)), (mE, .inl (cI, 2600, .inl eE')), (rw, .inl (cI, cw, .inl fr))] t.heap ∧ va_D A [(oM, .inr (12, [.ref mT, .int zt, .ref mS, .ref mX, .int zp, .int zf, .ref mL, .ref mB, .ref mD, .ref m1, .ref m2, .int zh, .ref mR, .int zr, .ref x1, .ref x2, .ref x3, .int zc, .ref mH, .int zy, .int za, .int zb, .int zs, .int zq, .int zw, .int ze, .ref mY, .int zn', .ref mE, .int zm', .int zl', .ref mW, .int zk, .ref mO, .int zd', .ref y1, .ref y2, .ref y3, .ref y4, .ref mZ])), (mY, .inl (cI, 2600, .inl eY')), (mB, .inl (cS, 131072, .inl eB)), (mL, .inl (cI, 512, .inl eL)), (mE, .inl (cI, 2600, .inl eE')), (rw, .inl (cI, cw, .inl fr))] ∧ (0 ≤ zn'.toInt ∧ zn'.toInt ≤ 2600) ∧ (rg 0 255 eY') ∧ (0 ≤ zm'.toInt ∧ zm'.toInt ≤ 2600) ∧ (rg 0 65535 eE') ∧ (0 ≤ r.toInt ∧ r.toInt ≤ 1) ∧ (r.toInt = 0 ∨ zm'.toInt ≤ 300)) A := ⟨_, rfl⟩
  rw [← hQQ]
  refine lv_aload_n hx hb dX12_does_0 rfl (lv_at hl 0 rfl) ?_
  refine lv_iconst (v := (-1)) hx hb dX12_does_1 (by decide) ?_
  refine va_put (D := (dC, dI)) (ci := 12) (v := .int (-1)) (ty := .int) (C := RX12) (T := TX12) (N := 40) hx hb hts in_X12 tyX12 tyX12_ok nmX12 hown hK hP hD hS 0 rfl rfl 30 (by decide) (hts (.fieldLink RX12 102 "TextMenderModel" "faultAt" "I") (List.mem_of_getElem? (i := 1) rfl)) (fun _ h9 => h9) rfl (by decide +kernel) rfl rfl (Nat.le_of_ble_eq_true rfl) dX12_does_2 (fun H locs hPn hDn hSn => ?_)
  clear hP hD hS
  have hP : va_P (dC, dI) vwCl [(oM, .inr (12, [.ref mT, .int zt, .ref mS, .ref mX, .int zp, .int zf, .ref mL, .ref mB, .ref mD, .ref m1, .ref m2, .int zh, .ref mR, .int zr, .ref x1, .ref x2, .ref x3, .int zc, .ref mH, .int zy, .int za, .int zb, .int zs, .int zq, .int zw, .int ze, .ref mY, .int zn, .ref mE, .int zm, .int (-1), .ref mW, .int zk, .ref mO, .int zd, .ref y1, .ref y2, .ref y3, .ref y4, .ref mZ])), (mY, .inl (cI, 2600, .inl eY)), (mB, .inl (cS, 131072, .inl eB)), (mL, .inl (cI, 512, .inl eL)), (mE, .inl (cI, 2600, .inl eE)), (rw, .inl (cI, cw, .inl fr))] H := hPn
  have hD : va_D A [(oM, .inr (12, [.ref mT, .int zt, .ref mS, .ref mX, .int zp, .int zf, .ref mL, .ref mB, .ref mD, .ref m1, .ref m2, .int zh, .ref mR, .int zr, .ref x1, .ref x2, .ref x3, .int zc, .ref mH, .int zy, .int za, .int zb, .int zs, .int zq, .int zw, .int ze, .ref mY, .int zn, .ref mE, .int zm, .int (-1), .ref mW, .int zk, .ref mO, .int zd, .ref y1, .ref y2, .ref y3, .ref y4, .ref mZ])), (mY, .inl (cI, 2600, .inl eY)), (mB, .inl (cS, 131072, .inl eB)), (mL, .inl (cI, 512, .inl eL)), (mE, .inl (cI, 2600, .inl eE)), (rw, .inl (cI, cw, .inl fr))] := hDn
  have hS := hSn
  clear hPn hDn hSn
  refine lv_aload_n hx hb dX12_does_5 rfl (lv_at hl 0 rfl) ?_
  refine lv_iload_n hx hb dX12_does_6 rfl (lv_at hl 1 rfl) ?_
  refine lv_aload_n hx hb dX12_does_7 rfl (lv_at hl 3 rfl) ?_
  refine lv_iload hx hb dX12_does_8 (lv_at hl 4 rfl) ?_
  have hPc := hP.sub (ws' := [(oM, .inr (12, [.ref mT, .int zt, .ref mS, .ref mX, .int zp, .int zf, .ref mL, .ref mB, .ref mD, .ref m1, .ref m2, .int zh, .ref mR, .int zr, .ref x1, .ref x2, .ref x3, .int zc, .ref mH, .int zy, .int za, .int zb, .int zs, .int zq, .int zw, .int ze, .ref mY, .int zn, .ref mE, .int zm, .int (-1), .ref mW, .int zk, .ref mO, .int zd, .ref y1, .ref y2, .ref y3, .ref y4, .ref mZ])), (mY, .inl (cI, 2600, .inl eY)), (mB, .inl (cS, 131072, .inl eB)), (rw, .inl (cI, cw, .inl fr))]) [0, 1, 2, 5] rfl
  have hDc := hD.sub (ws' := [(oM, .inr (12, [.ref mT, .int zt, .ref mS, .ref mX, .int zp, .int zf, .ref mL, .ref mB, .ref mD, .ref m1, .ref m2, .int zh, .ref mR, .int zr, .ref x1, .ref x2, .ref x3, .int zc, .ref mH, .int zy, .int za, .int zb, .int zs, .int zq, .int zw, .int ze, .ref mY, .int zn, .ref mE, .int zm, .int (-1), .ref mW, .int zk, .ref mO, .int zd, .ref y1, .ref y2, .ref y3, .ref y4, .ref mZ])), (mY, .inl (cI, 2600, .inl eY)), (mB, .inl (cS, 131072, .inl eB)), (rw, .inl (cI, cw, .inl fr))]) [0, 1, 2, 5] (by decide +kernel) rfl
  have hFc := va_free (wc := [(oM, .inr (12, [.ref mT, .int zt, .ref mS, .ref mX, .int zp, .int zf, .ref mL, .ref mB, .ref mD, .ref m1, .ref m2, .int zh, .ref mR, .int zr, .ref x1, .ref x2, .ref x3, .int zc, .ref mH, .int zy, .int za, .int zb, .int zs, .int zq, .int zw, .int ze, .ref mY, .int zn, .ref mE, .int zm, .int (-1), .ref mW, .int zk, .ref mO, .int zd, .ref y1, .ref y2, .ref y3, .ref y4, .ref mZ])), (mY, .inl (cI, 2600, .inl eY)), (mB, .inl (cS, 131072, .inl eB)), (rw, .inl (cI, cw, .inl fr))]) hD hS hA [0, 1, 2, 5] rfl
  refine va_calli (va_runV (As := [.int a, .ref rw, .int n]) (rest := []) ⟨hx, hb, hml, hown, hts⟩ (m_X12_write l dC dI cI cS H.size oM rw mT mS mX mL mB mD m1 m2 mR x1 x2 x3 mH mY mE mW mO y1 y2 y3 y4 mZ cw zt zp zf zh zr zc zy za zb zs zq zw ze zn zm (-1) zk zd eY eB fr a n (g_zt) (g_zp) (g_zf) (g_zh) (g_zr) (g_zc) (g_zy) (g_za) (g_zb) (g_zs) (g_zq) (g_zn) (g_zm) (g_zk) (g_eY) (g_eB) (g_fr) (g_a) (g_n) (by omega) (by omega)) (cwV 3 hts gX12_does_X12_write rfl rfl rfl (by decide +kernel) ⟨Nat.le_of_ble_eq_true rfl, Nat.le_of_ble_eq_true rfl⟩) ⟨fun a U g mk q => by obtain ⟨q0, q1, qP, qK, qD⟩ := q; exact ⟨q0, q1, qP, va_K.moved (u := U) (U := U.calling g mk a) (Vm.Alike.refl U.vm) qK, qD⟩, va_recv hK hPc (ci := 12) (q0 := 0) rfl rfl, fun U hU hW => ⟨rfl, by rw [hU], by rw [hU]; exact hPc, va_K.moved hW.alike hK, hDc.weaken (fun _ _ _ _ => trivial)⟩⟩ rfl rfl hl.1 rfl (lv_room (Nat.le_of_ble_eq_true rfl)) dX12_does_10 ⟨Nat.le_of_ble_eq_true rfl, Nat.le_of_ble_eq_true rfl⟩) hS (fun q _ h => hFc q h) hFc (fun r_1 u t H1 locs ht hvm hw hB hz1 hk1 hSn => ?_)
  subst hw
  obtain ⟨zn_1, eY_1, zl_1, hP1, hD1, hf1_0, hf1_1, hf1_2⟩ := hB
  rw [ht] at hP1
  obtain ⟨hPn, hDn⟩ := va_join (wr := [(mL, .inl (cI, 512, .inl eL)), (mE, .inl (cI, 2600, .inl eE))]) (w1 := [(oM, .inr (12, [.ref mT, .int zt, .ref mS, .ref mX, .int zp, .int zf, .ref mL, .ref mB, .ref mD, .ref m1, .ref m2, .int zh, .ref mR, .int zr, .ref x1, .ref x2, .ref x3, .int zc, .ref mH, .int zy, .int za, .int zb, .int zs, .int zq, .int zw, .int ze, .ref mY, .int zn_1, .ref mE, .int zm, .int zl_1, .ref mW, .int zk, .ref mO, .int zd, .ref y1, .ref y2, .ref y3, .ref y4, .ref mZ])), (mY, .inl (cI, 2600, .inl eY_1)), (mB, .inl (cS, 131072, .inl eB)), (rw, .inl (cI, cw, .inl fr))]) hP hD [0, 1, 2, 5] [3, 4] rfl rfl (by decide +kernel) (by decide +kernel) hk1 hFc hP1 hD1
  clear hP hD hS hPc hDc hFc hk1 hz1 hvm ht hP1 hD1
  generalize H1 = H at hPn hSn ⊢
  have hP : va_P (dC, dI) vwCl [(mL, .inl (cI, 512, .inl eL)), (mE, .inl (cI, 2600, .inl eE)), (oM, .inr (12, [.ref mT, .int zt, .ref mS, .ref mX, .int zp, .int zf, .ref mL, .ref mB, .ref mD, .ref m1, .ref m2, .int zh, .ref mR, .int zr, .ref x1, .ref x2, .ref x3, .int zc, .ref mH, .int zy, .int za, .int zb, .int zs, .int zq, .int zw, .int ze, .ref mY, .int zn_1, .ref mE, .int zm, .int zl_1, .ref mW, .int zk, .ref mO, .int zd, .ref y1, .ref y2, .ref y3, .ref y4, .ref mZ])), (mY, .inl (cI, 2600, .inl eY_1)), (mB, .inl (cS, 131072, .inl eB)), (rw, .inl (cI, cw, .inl fr))] H := hPn
  have hD : va_D A [(mL, .inl (cI, 512, .inl eL)), (mE, .inl (cI, 2600, .inl eE)), (oM, .inr (12, [.ref mT, .int zt, .ref mS, .ref mX, .int zp, .int zf, .ref mL, .ref mB, .ref mD, .ref m1, .ref m2, .int zh, .ref mR, .int zr, .ref x1, .ref x2, .ref x3, .int zc, .ref mH, .int zy, .int za, .int zb, .int zs, .int zq, .int zw, .int ze, .ref mY, .int zn_1, .ref mE, .int zm, .int zl_1, .ref mW, .int zk, .ref mO, .int zd, .ref y1, .ref y2, .ref y3, .ref y4, .ref mZ])), (mY, .inl (cI, 2600, .inl eY_1)), (mB, .inl (cS, 131072, .inl eB)), (rw, .inl (cI, cw, .inl fr))] := hDn
  have hS := hSn
  clear hPn hDn hSn
  refine lv_if_ne (tgt := 18) hx hb dX12_does_13 (by decide) (fun c_2 => ?_) (fun c_2 => ?_)
  · have tc_2 : ¬ r_1.toInt = 0 := v_ne c_2
    refine lv_aload_n hx hb dX12_does_18 rfl (lv_at hl 0 rfl) ?_
    refine va_get (D := (dC, dI)) (ci := 12) (v := .int zn_1) (C := RX12) (T := TX12) (N := 40) hx hb hts in_X12 hown hK hP 2 rfl rfl 27 (by decide) (hts (.fieldLink RX12 91 "TextMenderModel" "byteMany" "I") (List.mem_of_getElem? (i := 2) rfl)) (fun _ h9 => h9) rfl dX12_does_19 ?_
    refine lv_sipush (v := 900) hx hb dX12_does_22 (by decide) ?_
    refine lv_icmp_le (tgt := 30) hx hb dX12_does_25 (by decide) (fun c_3 => ?_) (fun c_3 => ?_)
    · have tc_3 : zn_1.toInt ≤ 900 := v_le c_3
      refine lv_aload_n hx hb dX12_does_30 rfl (lv_at hl 0 rfl) ?_
      refine lv_iload_n hx hb dX12_does_31 rfl (lv_at hl 2 rfl) ?_
      refine lv_iconst (v := 0) hx hb dX12_does_32 (by decide) ?_
      have hPc := hP.sub (ws' := [(oM, .inr (12, [.ref mT, .int zt, .ref mS, .ref mX, .int zp, .int zf, .ref mL, .ref mB, .ref mD, .ref m1, .ref m2, .int zh, .ref mR, .int zr, .ref x1, .ref x2, .ref x3, .int zc, .ref mH, .int zy, .int za, .int zb, .int zs, .int zq, .int zw, .int ze, .ref mY, .int zn_1, .ref mE, .int zm, .int zl_1, .ref mW, .int zk, .ref mO, .int zd, .ref y1, .ref y2, .ref y3, .ref y4, .ref mZ])), (mY, .inl (cI, 2600, .inl eY_1)), (mL, .inl (cI, 512, .inl eL)), (mE, .inl (cI, 2600, .inl eE))]) [2, 3, 0, 1] rfl
      have hDc := hD.sub (ws' := [(oM, .inr (12, [.ref mT, .int zt, .ref mS, .ref mX, .int zp, .int zf, .ref mL, .ref mB, .ref mD, .ref m1, .ref m2, .int zh, .ref mR, .int zr, .ref x1, .ref x2, .ref x3, .int zc, .ref mH, .int zy, .int za, .int zb, .int zs, .int zq, .int zw, .int ze, .ref mY, .int zn_1, .ref mE, .int zm, .int zl_1, .ref mW, .int zk, .ref mO, .int zd, .ref y1, .ref y2, .ref y3, .ref y4, .ref mZ])), (mY, .inl (cI, 2600, .inl eY_1)), (mL, .inl (cI, 512, .inl eL)), (mE, .inl (cI, 2600, .inl eE))]) [2, 3, 0, 1] (by decide +kernel) rfl
      have hFc := va_free (wc := [(oM, .inr (12, [.ref mT, .int zt, .ref mS, .ref mX, .int zp, .int zf, .ref mL, .ref mB, .ref mD, .ref m1, .ref m2, .int zh, .ref mR, .int zr, .ref x1, .ref x2, .ref x3, .int zc, .ref mH, .int zy, .int za, .int zb, .int zs, .int zq, .int zw, .int ze, .ref mY, .int zn_1, .ref mE, .int zm, .int zl_1, .ref mW, .int zk, .ref mO, .int zd, .ref y1, .ref y2, .ref y3, .ref y4, .ref mZ])), (mY, .inl (cI, 2600, .inl eY_1)), (mL, .inl (cI, 512, .inl eL)), (mE, .inl (cI, 2600, .inl eE))]) hD hS hA [2, 3, 0, 1] rfl
      refine va_calli (va_runV (As := [.int b, .int 0]) (rest := []) ⟨hx, hb, hml, hown, hts⟩ (m_X12_read l dC dI cI cS H.size oM mT mS mX mL mB mD m1 m2 mR x1 x2 x3 mH mY mE mW mO y1 y2 y3 y4 mZ zt zp zf zh zr zc zy za zb zs zq zw ze zn_1 zm zl_1 zk zd eY_1 eL eE b 0 (g_zt) (g_zp) (g_zf) (g_zh) (g_zr) (g_zc) (g_zy) (g_za) (g_zb) (g_zs) (g_zq) (hf1_0) (g_zm) (g_zk) (hf1_1) (g_eL) (g_eE) (g_b)) (cwV 2 hts gX12_does_X12_read rfl rfl rfl (by decide +kernel) ⟨Nat.le_of_ble_eq_true rfl, Nat.le_of_ble_eq_true rfl⟩) ⟨fun a U g mk q => by obtain ⟨q0, q1, qP, qK, qD⟩ := q; exact ⟨q0, q1, qP, va_K.moved (u := U) (U := U.calling g mk a) (Vm.Alike.refl U.vm) qK, qD⟩, va_recv hK hPc (ci := 12) (q0 := 0) rfl rfl, fun U hU hW => ⟨rfl, by rw [hU], by rw [hU]; exact hPc, va_K.moved hW.alike hK, hDc.weaken (fun _ _ _ _ => trivial)⟩⟩ rfl rfl hl.1 rfl (lv_room (Nat.le_of_ble_eq_true rfl)) dX12_does_33 ⟨Nat.le_of_ble_eq_true rfl, Nat.le_of_ble_eq_true rfl⟩) hS (fun q _ h => hFc q h) hFc (fun r_4 u t H1 locs ht hvm hw hB hz1 hk1 hSn => ?_)
      subst hw
      obtain ⟨zd_4, zm_4, zl_4, eE_4, hP1, hD1, hf4_0, hf4_1, hf4_2, hf4_3⟩ := hB
      rw [ht] at hP1
      obtain ⟨hPn, hDn⟩ := va_join (wr := [(mB, .inl (cS, 131072, .inl eB)), (rw, .inl (cI, cw, .inl fr))]) (w1 := [(oM, .inr (12, [.ref mT, .int zt, .ref mS, .ref mX, .int zp, .int zf, .ref mL, .ref mB, .ref mD, .ref m1, .ref m2, .int zh, .ref mR, .int zr, .ref x1, .ref x2, .ref x3, .int zc, .ref mH, .int zy, .int za, .int zb, .int zs, .int zq, .int zw, .int ze, .ref mY, .int zn_1, .ref mE, .int zm_4, .int zl_4, .ref mW, .int zk, .ref mO, .int zd_4, .ref y1, .ref y2, .ref y3, .ref y4, .ref mZ])), (mY, .inl (cI, 2600, .inl eY_1)), (mL, .inl (cI, 512, .inl eL)), (mE, .inl (cI, 2600, .inl eE_4))]) hP hD [2, 3, 0, 1] [4, 5] rfl rfl (by decide +kernel) (by decide +kernel) hk1 hFc hP1 hD1
      clear hP hD hS hPc hDc hFc hk1 hz1 hvm ht hP1 hD1
      generalize H1 = H at hPn hSn ⊢
      have hP : va_P (dC, dI) vwCl [(mB, .inl (cS, 131072, .inl eB)), (rw, .inl (cI, cw, .inl fr)), (oM, .inr (12, [.ref mT, .int zt, .ref mS, .ref mX, .int zp, .int zf, .ref mL, .ref mB, .ref mD, .ref m1, .ref m2, .int zh, .ref mR, .int zr, .ref x1, .ref x2, .ref x3, .int zc, .ref mH, .int zy, .int za, .int zb, .int zs, .int zq, .int zw, .int ze, .ref mY, .int zn_1, .ref mE, .int zm_4, .int zl_4, .ref mW, .int zk, .ref mO, .int zd_4, .ref y1, .ref y2, .ref y3, .ref y4, .ref mZ])), (mY, .inl (cI, 2600, .inl eY_1)), (mL, .inl (cI, 512, .inl eL)), (mE, .inl (cI, 2600, .inl eE_4))] H := hPn
      have hD : va_D A [(mB, .inl (cS, 131072, .inl eB)), (rw, .inl (cI, cw, .inl fr)), (oM, .inr (12, [.ref mT, .int zt, .ref mS, .ref mX, .int zp, .int zf, .ref mL, .ref mB, .ref mD, .ref m1, .ref m2, .int zh, .ref mR, .int zr, .ref x1, .ref x2, .ref x3, .int zc, .ref mH, .int zy, .int za, .int zb, .int zs, .int zq, .int zw, .int ze, .ref mY, .int zn_1, .ref mE, .int zm_4, .int zl_4, .ref mW, .int zk, .ref mO, .int zd_4, .ref y1, .ref y2, .ref y3, .ref y4, .ref mZ])), (mY, .inl (cI, 2600, .inl eY_1)), (mL, .inl (cI, 512, .inl eL)), (mE, .inl (cI, 2600, .inl eE_4))] := hDn
      have hS := hSn
      clear hPn hDn hSn
      refine lv_if_ne (tgt := 41) hx hb dX12_does_36 (by decide) (fun c_5 => ?_) (fun c_5 => ?_)
      · have tc_5 : ¬ r_4.toInt = 0 := v_ne c_5
        refine lv_aload_n hx hb dX12_does_41 rfl (lv_at hl 0 rfl) ?_
        refine va_get (D := (dC, dI)) (ci := 12) (v := .int zm_4) (C := RX12) (T := TX12) (N := 40) hx hb hts in_X12 hown hK hP 2 rfl rfl 29 (by decide) (hts (.fieldLink RX12 119 "TextMenderModel" "cameMany" "I") (List.mem_of_getElem? (i := 3) rfl)) (fun _ h9 => h9) rfl dX12_does_42 ?_
        refine lv_sipush (v := 300) hx hb dX12_does_45 (by decide) ?_
        refine lv_icmp_gt (tgt := 55) hx hb dX12_does_48 (by decide) (fun c_6 => ?_) (fun c_6 => ?_)
        · have tc_6 : 300 < zm_4.toInt := v_lt c_6
          refine lv_iconst (v := 0) hx hb dX12_does_55 (by decide) ?_
          have hP9 := hP.sub (ws' := [(oM, .inr (12, [.ref mT, .int zt, .ref mS, .ref mX, .int zp, .int zf, .ref mL, .ref mB, .ref mD, .ref m1, .ref m2, .int zh, .ref mR, .int zr, .ref x1, .ref x2, .ref x3, .int zc, .ref mH, .int zy, .int za, .int zb, .int zs, .int zq, .int zw, .int ze, .ref mY, .int zn_1, .ref mE, .int zm_4, .int zl_4, .ref mW, .int zk, .ref mO, .int zd_4, .ref y1, .ref y2, .ref y3, .ref y4, .ref mZ])), (mY, .inl (cI, 2600, .inl eY_1)), (mB, .inl (cS, 131072, .inl eB)), (mL, .inl (cI, 512, .inl eL)), (mE, .inl (cI, 2600, .inl eE_4)), (rw, .inl (cI, cw, .inl fr))]) [2, 3, 0, 4, 5, 1] rfl
          have hD9 := hD.sub (ws' := [(oM, .inr (12, [.ref mT, .int zt, .ref mS, .ref mX, .int zp, .int zf, .ref mL, .ref mB, .ref mD, .ref m1, .ref m2, .int zh, .ref mR, .int zr, .ref x1, .ref x2, .ref x3, .int zc, .ref mH, .int zy, .int za, .int zb, .int zs, .int zq, .int zw, .int ze, .ref mY, .int zn_1, .ref mE, .int zm_4, .int zl_4, .ref mW, .int zk, .ref mO, .int zd_4, .ref y1, .ref y2, .ref y3, .ref y4, .ref mZ])), (mY, .inl (cI, 2600, .inl eY_1)), (mB, .inl (cS, 131072, .inl eB)), (mL, .inl (cI, 512, .inl eL)), (mE, .inl (cI, 2600, .inl eE_4)), (rw, .inl (cI, cw, .inl fr))]) [2, 3, 0, 4, 5, 1] (by decide +kernel) rfl
          rw [hQQ]
          exact W.zret (v := 0) (ty := .boolean) hx hb hr (rfl) (fun t ht hW => ⟨⟨0, 0, rfl, rfl, ⟨zn_1, eY_1, zd_4, zm_4, zl_4, eE_4, by rw [ht]; exact hP9, hD9, hf1_0, hf1_1, hf4_0, hf4_1, by decide, by show 0 = 0 ∨ zm_4.toInt ≤ 300; omega⟩⟩, hS.F ht⟩) hS.2.2 dX12_does_56
        · have tc_6 : zm_4.toInt ≤ 300 := v_nlt c_6
          refine lv_iconst (v := 1) hx hb dX12_does_51 (by decide) ?_
          refine lv_goto (tgt := 56) hx hb dX12_does_52 (by decide) ?_
          have hP9 := hP.sub (ws' := [(oM, .inr (12, [.ref mT, .int zt, .ref mS, .ref mX, .int zp, .int zf, .ref mL, .ref mB, .ref mD, .ref m1, .ref m2, .int zh, .ref mR, .int zr, .ref x1, .ref x2, .ref x3, .int zc, .ref mH, .int zy, .int za, .int zb, .int zs, .int zq, .int zw, .int ze, .ref mY, .int zn_1, .ref mE, .int zm_4, .int zl_4, .ref mW, .int zk, .ref mO, .int zd_4, .ref y1, .ref y2, .ref y3, .ref y4, .ref mZ])), (mY, .inl (cI, 2600, .inl eY_1)), (mB, .inl (cS, 131072, .inl eB)), (mL, .inl (cI, 512, .inl eL)), (mE, .inl (cI, 2600, .inl eE_4)), (rw, .inl (cI, cw, .inl fr))]) [2, 3, 0, 4, 5, 1] rfl
          have hD9 := hD.sub (ws' := [(oM, .inr (12, [.ref mT, .int zt, .ref mS, .ref mX, .int zp, .int zf, .ref mL, .ref mB, .ref mD, .ref m1, .ref m2, .int zh, .ref mR, .int zr, .ref x1, .ref x2, .ref x3, .int zc, .ref mH, .int zy, .int za, .int zb, .int zs, .int zq, .int zw, .int ze, .ref mY, .int zn_1, .ref mE, .int zm_4, .int zl_4, .ref mW, .int zk, .ref mO, .int zd_4, .ref y1, .ref y2, .ref y3, .ref y4, .ref mZ])), (mY, .inl (cI, 2600, .inl eY_1)), (mB, .inl (cS, 131072, .inl eB)), (mL, .inl (cI, 512, .inl eL)), (mE, .inl (cI, 2600, .inl eE_4)), (rw, .inl (cI, cw, .inl fr))]) [2, 3, 0, 4, 5, 1] (by decide +kernel) rfl
          rw [hQQ]
          exact W.zret (v := 1) (ty := .boolean) hx hb hr (rfl) (fun t ht hW => ⟨⟨1, 1, rfl, rfl, ⟨zn_1, eY_1, zd_4, zm_4, zl_4, eE_4, by rw [ht]; exact hP9, hD9, hf1_0, hf1_1, hf4_0, hf4_1, by decide, by show 1 = 0 ∨ zm_4.toInt ≤ 300; omega⟩⟩, hS.F ht⟩) hS.2.2 dX12_does_56
      · have tc_5 : r_4.toInt = 0 := v_eq c_5
        refine lv_iconst (v := 0) hx hb dX12_does_39 (by decide) ?_
        have hP9 := hP.sub (ws' := [(oM, .inr (12, [.ref mT, .int zt, .ref mS, .ref mX, .int zp, .int zf, .ref mL, .ref mB, .ref mD, .ref m1, .ref m2, .int zh, .ref mR, .int zr, .ref x1, .ref x2, .ref x3, .int zc, .ref mH, .int zy, .int za, .int zb, .int zs, .int zq, .int zw, .int ze, .ref mY, .int zn_1, .ref mE, .int zm_4, .int zl_4, .ref mW, .int zk, .ref mO, .int zd_4, .ref y1, .ref y2, .ref y3, .ref y4, .ref mZ])), (mY, .inl (cI, 2600, .inl eY_1)), (mB, .inl (cS, 131072, .inl eB)), (mL, .inl (cI, 512, .inl eL)), (mE, .inl (cI, 2600, .inl eE_4)), (rw, .inl (cI, cw, .inl fr))]) [2, 3, 0, 4, 5, 1] rfl
        have hD9 := hD.sub (ws' := [(oM, .inr (12, [.ref mT, .int zt, .ref mS, .ref mX, .int zp, .int zf, .ref mL, .ref mB, .ref mD, .ref m1, .ref m2, .int zh, .ref mR, .int zr, .ref x1, .ref x2, .ref x3, .int zc, .ref mH, .int zy, .int za, .int zb, .int zs, .int zq, .int zw, .int ze, .ref mY, .int zn_1, .ref mE, .int zm_4, .int zl_4, .ref mW, .int zk, .ref mO, .int zd_4, .ref y1, .ref y2, .ref y3, .ref y4, .ref mZ])), (mY, .inl (cI, 2600, .inl eY_1)), (mB, .inl (cS, 131072, .inl eB)), (mL, .inl (cI, 512, .inl eL)), (mE, .inl (cI, 2600, .inl eE_4)), (rw, .inl (cI, cw, .inl fr))]) [2, 3, 0, 4, 5, 1] (by decide +kernel) rfl
        rw [hQQ]
        exact W.zret (v := 0) (ty := .boolean) hx hb hr (rfl) (fun t ht hW => ⟨⟨0, 0, rfl, rfl, ⟨zn_1, eY_1, zd_4, zm_4, zl_4, eE_4, by rw [ht]; exact hP9, hD9, hf1_0, hf1_1, hf4_0, hf4_1, by decide, by show 0 = 0 ∨ zm_4.toInt ≤ 300; omega⟩⟩, hS.F ht⟩) hS.2.2 dX12_does_40
    · have tc_3 : 900 < zn_1.toInt := v_nle c_3
      refine lv_iconst (v := 0) hx hb dX12_does_28 (by decide) ?_
      have hP9 := hP.sub (ws' := [(oM, .inr (12, [.ref mT, .int zt, .ref mS, .ref mX, .int zp, .int zf, .ref mL, .ref mB, .ref mD, .ref m1, .ref m2, .int zh, .ref mR, .int zr, .ref x1, .ref x2, .ref x3, .int zc, .ref mH, .int zy, .int za, .int zb, .int zs, .int zq, .int zw, .int ze, .ref mY, .int zn_1, .ref mE, .int zm, .int zl_1, .ref mW, .int zk, .ref mO, .int zd, .ref y1, .ref y2, .ref y3, .ref y4, .ref mZ])), (mY, .inl (cI, 2600, .inl eY_1)), (mB, .inl (cS, 131072, .inl eB)), (mL, .inl (cI, 512, .inl eL)), (mE, .inl (cI, 2600, .inl eE)), (rw, .inl (cI, cw, .inl fr))]) [2, 3, 4, 0, 1, 5] rfl
      have hD9 := hD.sub (ws' := [(oM, .inr (12, [.ref mT, .int zt, .ref mS, .ref mX, .int zp, .int zf, .ref mL, .ref mB, .ref mD, .ref m1, .ref m2, .int zh, .ref mR, .int zr, .ref x1, .ref x2, .ref x3, .int zc, .ref mH, .int zy, .int za, .int zb, .int zs, .int zq, .int zw, .int ze, .ref mY, .int zn_1, .ref mE, .int zm, .int zl_1, .ref mW, .int zk, .ref mO, .int zd, .ref y1, .ref y2, .ref y3, .ref y4, .ref mZ])), (mY, .inl (cI, 2600, .inl eY_1)), (mB, .inl (cS, 131072, .inl eB)), (mL, .inl (cI, 512, .inl eL)), (mE, .inl (cI, 2600, .inl eE)), (rw, .inl (cI, cw, .inl fr))]) [2, 3, 4, 0, 1, 5] (by decide +kernel) rfl
      rw [hQQ]
      exact W.zret (v := 0) (ty := .boolean) hx hb hr (rfl) (fun t ht hW => ⟨⟨0, 0, rfl, rfl, ⟨zn_1, eY_1, zd, zm, zl_1, eE, by rw [ht]; exact hP9, hD9, hf1_0, hf1_1, g_zm, g_eE, by decide, by show 0 = 0 ∨ zm.toInt ≤ 300; omega⟩⟩, hS.F ht⟩) hS.2.2 dX12_does_29
  · have tc_2 : r_1.toInt = 0 := v_eq c_2
    refine lv_iconst (v := 0) hx hb dX12_does_16 (by decide) ?_
    have hP9 := hP.sub (ws' := [(oM, .inr (12, [.ref mT, .int zt, .ref mS, .ref mX, .int zp, .int zf, .ref mL, .ref mB, .ref mD, .ref m1, .ref m2, .int zh, .ref mR, .int zr, .ref x1, .ref x2, .ref x3, .int zc, .ref mH, .int zy, .int za, .int zb, .int zs, .int zq, .int zw, .int ze, .ref mY, .int zn_1, .ref mE, .int zm, .int zl_1, .ref mW, .int zk, .ref mO, .int zd, .ref y1, .ref y2, .ref y3, .ref y4, .ref mZ])), (mY, .inl (cI, 2600, .inl eY_1)), (mB, .inl (cS, 131072, .inl eB)), (mL, .inl (cI, 512, .inl eL)), (mE, .inl (cI, 2600, .inl eE)), (rw, .inl (cI, cw, .inl fr))]) [2, 3, 4, 0, 1, 5] rfl
    have hD9 := hD.sub (ws' := [(oM, .inr (12, [.ref mT, .int zt, .ref mS, .ref mX, .int zp, .int zf, .ref mL, .ref mB, .ref mD, .ref m1, .ref m2, .int zh, .ref mR, .int zr, .ref x1, .ref x2, .ref x3, .int zc, .ref mH, .int zy, .int za, .int zb, .int zs, .int zq, .int zw, .int ze, .ref mY, .int zn_1, .ref mE, .int zm, .int zl_1, .ref mW, .int zk, .ref mO, .int zd, .ref y1, .ref y2, .ref y3, .ref y4, .ref mZ])), (mY, .inl (cI, 2600, .inl eY_1)), (mB, .inl (cS, 131072, .inl eB)), (mL, .inl (cI, 512, .inl eL)), (mE, .inl (cI, 2600, .inl eE)), (rw, .inl (cI, cw, .inl fr))]) [2, 3, 4, 0, 1, 5] (by decide +kernel) rfl
    rw [hQQ]
    exact W.zret (v := 0) (ty := .boolean) hx hb hr (rfl) (fun t ht hW => ⟨⟨0, 0, rfl, rfl, ⟨zn_1, eY_1, zd, zm, zl_1, eE, by rw [ht]; exact hP9, hD9, hf1_0, hf1_1, g_zm, g_eE, by decide, by show 0 = 0 ∨ zm.toInt ≤ 300; omega⟩⟩, hS.F ht⟩) hS.2.2 dX12_does_17

set_option maxHeartbeats 40000000 in
set_option maxRecDepth 100000 in
theorem m_X12_undoes (l : Launch) (dC : Nat → ClassId) (dI : Nat → Nat → Nat) (cI cS : ClassId) (sz : Nat) (oM : Nat) (mT : Nat) (mS : Nat) (mX : Nat) (mL : Nat) (mB : Nat) (mD : Nat) (m1 : Nat) (m2 : Nat) (mR : Nat) (x1 : Nat) (x2 : Nat) (x3 : Nat) (mH : Nat) (mY : Nat) (mE : Nat) (mW : Nat) (mO : Nat) (y1 : Nat) (y2 : Nat) (y3 : Nat) (y4 : Nat) (mZ : Nat) (zt : Int32) (zp : Int32) (zf : Int32) (zh : Int32) (zr : Int32) (zc : Int32) (zy : Int32) (za : Int32) (zb : Int32) (zs : Int32) (zq : Int32) (zw : Int32) (ze : Int32) (zn : Int32) (zm : Int32) (zl : Int32) (zk : Int32) (zd : Int32) (eY : Nat → Int32) (eB : Nat → Int32) (eL : Nat → Int32) (eE : Nat → Int32) (eW : Nat → Int32) (eO : Nat → Int32) (a : Int32) (b : Int32) (g_zt : 0 ≤ zt.toInt ∧ zt.toInt ≤ 900) (g_zp : 0 ≤ zp.toInt ∧ zp.toInt ≤ 20) (g_zf : 0 ≤ zf.toInt ∧ zf.toInt ≤ 19) (g_zh : 0 ≤ zh.toInt ∧ zh.toInt ≤ 6) (g_zr : 0 ≤ zr.toInt ∧ zr.toInt ≤ 258) (g_zc : 0 ≤ zc.toInt ∧ zc.toInt ≤ 300) (g_zy : 0 ≤ zy.toInt ∧ zy.toInt ≤ 65536) (g_za : 0 ≤ za.toInt ∧ za.toInt ≤ 5) (g_zb : 0 ≤ zb.toInt ∧ zb.toInt ≤ 5) (g_zs : 0 ≤ zs.toInt ∧ zs.toInt ≤ 2000000) (g_zq : -1 ≤ zq.toInt ∧ zq.toInt ≤ 2000000) (g_zn : 0 ≤ zn.toInt ∧ zn.toInt ≤ 2600) (g_zm : 0 ≤ zm.toInt ∧ zm.toInt ≤ 2600) (g_zk : 0 ≤ zk.toInt ∧ zk.toInt ≤ 300) (g_eY : rg 0 255 eY) (g_eB : rg (-1) 255 eB) (g_eL : rg (-1) 65535 eL) (g_eE : rg 0 65535 eE) (g_eW : rg 0 65535 eW) (g_eO : rg 0 65535 eO) (g_a : 0 ≤ a.toInt ∧ a.toInt ≤ 5) (g_b : 0 ≤ b.toInt ∧ b.toInt ≤ 5) : Met l yX12_undoes wsX12_undoes ({ frames := 4, cells := 0, slots := 0, locals := 95 } : Room) (va_Pc [.ref oM, .int a, .int b] (fun U => U.heap.size = sz ∧ va_P (dC, dI) vwCl [(oM, .inr (12, [.ref mT, .int zt, .ref mS, .ref mX, .int zp, .int zf, .ref mL, .ref mB, .ref mD, .ref m1, .ref m2, .int zh, .ref mR, .int zr, .ref x1, .ref x2, .ref x3, .int zc, .ref mH, .int zy, .int za, .int zb, .int zs, .int zq, .int zw, .int ze, .ref mY, .int zn, .ref mE, .int zm, .int zl, .ref mW, .int zk, .ref mO, .int zd, .ref y1, .ref y2, .ref y3, .ref y4, .ref mZ])), (mY, .inl (cI, 2600, .inl eY)), (mB, .inl (cS, 131072, .inl eB)), (mL, .inl (cI, 512, .inl eL)), (mE, .inl (cI, 2600, .inl eE)), (mW, .inl (cI, 300, .inl eW)), (mO, .inl (cI, 300, .inl eO))] U.heap ∧ va_K (dC, dI) vwCl [(cI, .int), (cS, .short)] U ∧ va_D (fun _ => True) [(oM, .inr (12, [.ref mT, .int zt, .ref mS, .ref mX, .int zp, .int zf, .ref mL, .ref mB, .ref mD, .ref m1, .ref m2, .int zh, .ref mR, .int zr, .ref x1, .ref x2, .ref x3, .int zc, .ref mH, .int zy, .int za, .int zb, .int zs, .int zq, .int zw, .int ze, .ref mY, .int zn, .ref mE, .int zm, .int zl, .ref mW, .int zk, .ref mO, .int zd, .ref y1, .ref y2, .ref y3, .ref y4, .ref mZ])), (mY, .inl (cI, 2600, .inl eY)), (mB, .inl (cS, 131072, .inl eB)), (mL, .inl (cI, 512, .inl eL)), (mE, .inl (cI, 2600, .inl eE)), (mW, .inl (cI, 300, .inl eW)), (mO, .inl (cI, 300, .inl eO))])) (va_Qi (fun (r : Int32) (u : Int32) => r = u) (fun (r : Int32) t => ∃ (zn' : Int32) (eY' : Nat → Int32) (zd' : Int32) (zm' : Int32) (zl' : Int32) (eE' : Nat → Int32) (zk' : Int32) (eW' : Nat → Int32) (eO' : Nat → Int32), va_P (dC, dI) vwCl [(oM, .inr (12, [.ref mT, .int zt, .ref mS, .ref mX, .int zp, .int zf, .ref mL, .ref mB, .ref mD, .ref m1, .ref m2, .int zh, .ref mR, .int zr, .ref x1, .ref x2, .ref x3, .int zc, .ref mH, .int zy, .int za, .int zb, .int zs, .int zq, .int zw, .int ze, .ref mY, .int zn', .ref mE, .int zm', .int zl', .ref mW, .int zk', .ref mO, .int zd', .ref y1, .ref y2, .ref y3, .ref y4, .ref mZ])), (mY, .inl (cI, 2600, .inl eY')), (mB, .inl (cS, 131072, .inl eB)), (mL, .inl (cI, 512, .inl eL)), (mE, .inl (cI, 2600, .inl eE')), (mW, .inl (cI, 300, .inl eW')), (mO, .inl (cI, 300, .inl eO'))] t.heap ∧ va_D (va_A [(oM, .inr (12, [.ref mT, .int zt, .ref mS, .ref mX, .int zp, .int zf, .ref mL, .ref mB, .ref mD, .ref m1, .ref m2, .int zh, .ref mR, .int zr, .ref x1, .ref x2, .ref x3, .int zc, .ref mH, .int zy, .int za, .int zb, .int zs, .int zq, .int zw, .int ze, .ref mY, .int zn, .ref mE, .int zm, .int zl, .ref mW, .int zk, .ref mO, .int zd, .ref y1, .ref y2, .ref y3, .ref y4, .ref mZ])), (mY, .inl (cI, 2600, .inl eY)), (mB, .inl (cS, 131072, .inl eB)), (mL, .inl (cI, 512, .inl eL)), (mE, .inl (cI, 2600, .inl eE)), (mW, .inl (cI, 300, .inl eW)), (mO, .inl (cI, 300, .inl eO))] sz) [(oM, .inr (12, [.ref mT, .int zt, .ref mS, .ref mX, .int zp, .int zf, .ref mL, .ref mB, .ref mD, .ref m1, .ref m2, .int zh, .ref mR, .int zr, .ref x1, .ref x2, .ref x3, .int zc, .ref mH, .int zy, .int za, .int zb, .int zs, .int zq, .int zw, .int ze, .ref mY, .int zn', .ref mE, .int zm', .int zl', .ref mW, .int zk', .ref mO, .int zd', .ref y1, .ref y2, .ref y3, .ref y4, .ref mZ])), (mY, .inl (cI, 2600, .inl eY')), (mB, .inl (cS, 131072, .inl eB)), (mL, .inl (cI, 512, .inl eL)), (mE, .inl (cI, 2600, .inl eE')), (mW, .inl (cI, 300, .inl eW')), (mO, .inl (cI, 300, .inl eO'))] ∧ (0 ≤ zn'.toInt ∧ zn'.toInt ≤ 2600) ∧ (rg 0 255 eY') ∧ (0 ≤ zm'.toInt ∧ zm'.toInt ≤ 2600) ∧ (rg 0 65535 eE') ∧ (0 ≤ zk'.toInt ∧ zk'.toInt ≤ 300) ∧ (rg 0 65535 eW') ∧ (rg 0 65535 eO') ∧ (0 ≤ r.toInt ∧ r.toInt ≤ 1)) (va_A [(oM, .inr (12, [.ref mT, .int zt, .ref mS, .ref mX, .int zp, .int zf, .ref mL, .ref mB, .ref mD, .ref m1, .ref m2, .int zh, .ref mR, .int zr, .ref x1, .ref x2, .ref x3, .int zc, .ref mH, .int zy, .int za, .int zb, .int zs, .int zq, .int zw, .int ze, .ref mY, .int zn, .ref mE, .int zm, .int zl, .ref mW, .int zk, .ref mO, .int zd, .ref y1, .ref y2, .ref y3, .ref y4, .ref mZ])), (mY, .inl (cI, 2600, .inl eY)), (mB, .inl (cS, 131072, .inl eB)), (mL, .inl (cI, 512, .inl eL)), (mE, .inl (cI, 2600, .inl eE)), (mW, .inl (cI, 300, .inl eW)), (mO, .inl (cI, 300, .inl eO))] sz)) 0 0 (va_A [(oM, .inr (12, [.ref mT, .int zt, .ref mS, .ref mX, .int zp, .int zf, .ref mL, .ref mB, .ref mD, .ref m1, .ref m2, .int zh, .ref mR, .int zr, .ref x1, .ref x2, .ref x3, .int zc, .ref mH, .int zy, .int za, .int zb, .int zs, .int zq, .int zw, .int ze, .ref mY, .int zn, .ref mE, .int zm, .int zl, .ref mW, .int zk, .ref mO, .int zd, .ref y1, .ref y2, .ref y3, .ref y4, .ref mZ])), (mY, .inl (cI, 2600, .inl eY)), (mB, .inl (cS, 131072, .inl eB)), (mL, .inl (cI, 512, .inl eL)), (mE, .inl (cI, 2600, .inl eE)), (mW, .inl (cI, 300, .inl eW)), (mO, .inl (cI, 300, .inl eO))] sz) := by
  refine Met.ofW (cc := cX12_undoes) (maxL := 6) (ret := (some .boolean)) (by decide) rfl ?_
  intro p e s m args below meth c s₁ B hml hv
  obtain ⟨rfl, hsz, hP, hK, hD0⟩ := hv
  have hx := B.exec
  have hb := B.bytes
  have hr := B.returns
  have hts := atoms_spec (ws := wsX12_undoes) B.pre
  have hown : s.vm.findClass RX12 = some m.cls := findClass_of_methodNamed B.named
  have hlocks := B.notSynchronized
  have in_X12 : ∀ w ∈ wsX120, w ∈ wsX12_undoes := fun _ h => List.mem_cons_of_mem _ (List.mem_append_right _ (h))
  subst hsz
  have hD := hD0.self (sz := s.heap.size)
  generalize hAe : va_A [(oM, .inr (12, [.ref mT, .int zt, .ref mS, .ref mX, .int zp, .int zf, .ref mL, .ref mB, .ref mD, .ref m1, .ref m2, .int zh, .ref mR, .int zr, .ref x1, .ref x2, .ref x3, .int zc, .ref mH, .int zy, .int za, .int zb, .int zs, .int zq, .int zw, .int ze, .ref mY, .int zn, .ref mE, .int zm, .int zl, .ref mW, .int zk, .ref mO, .int zd, .ref y1, .ref y2, .ref y3, .ref y4, .ref mZ])), (mY, .inl (cI, 2600, .inl eY)), (mB, .inl (cS, 131072, .inl eB)), (mL, .inl (cI, 512, .inl eL)), (mE, .inl (cI, 2600, .inl eE)), (mW, .inl (cI, 300, .inl eW)), (mO, .inl (cI, 300, .inl eO))] s.heap.size = A at hD ⊢
  have hA : ∀ q : Nat, s.heap.size ≤ q → A q := fun q h => by rw [← hAe]; exact Or.inr h
  have hS : va_S A s.heap s.heap [] := va_S.rf
  have hP : va_P (dC, dI) vwCl [(oM, .inr (12, [.ref mT, .int zt, .ref mS, .ref mX, .int zp, .int zf, .ref mL, .ref mB, .ref mD, .ref m1, .ref m2, .int zh, .ref mR, .int zr, .ref x1, .ref x2, .ref x3, .int zc, .ref mH, .int zy, .int za, .int zb, .int zs, .int zq, .int zw, .int ze, .ref mY, .int zn, .ref mE, .int zm, .int zl, .ref mW, .int zk, .ref mO, .int zd, .ref y1, .ref y2, .ref y3, .ref y4, .ref mZ])), (mY, .inl (cI, 2600, .inl eY)), (mB, .inl (cS, 131072, .inl eB)), (mL, .inl (cI, 512, .inl eL)), (mE, .inl (cI, 2600, .inl eE)), (mW, .inl (cI, 300, .inl eW)), (mO, .inl (cI, 300, .inl eO))] s.heap := hP
  have hl := lv_entry ([.ref oM, .int a, .int b]) (n := 6) (Nat.le_of_ble_eq_true rfl)
  rw [lg_entry_eq]
  generalize (lg_sl ([.ref oM, .int a, .int b]) ++ List.replicate (6 - (lg_sl ([.ref oM, .int a, .int b])).length) Slot.unset).toArray = ls at hl ⊢
  have hl : lv_has ls 6 [(0, .ref oM), (1, .int a), (2, .int b)] := hl
  obtain ⟨QQ, hQQ⟩ : ∃ QQ : Array Value → State → Outcome → State → Prop, QQ = va_Qi (fun (r : Int32) (u : Int32) => r = u) (fun (r : Int32) t => ∃ (zn' : Int32) (eY' : Nat → Int32) (zd' : Int32) (zm' : Int32) (zl' : Int32) (eE' : Nat → Int32) (zk' : Int32) (eW' : Nat → Int32) (eO' : Nat → Int32), va_P (dC, dI) vwCl [(oM, .inr (12, [.ref mT, .int zt, .ref mS, .ref mX, .int zp, .int zf, .ref mL, .ref mB, .ref mD, .ref m1, .ref m2, .int zh, .ref mR, .int zr, .ref x1, .ref x2, .ref x3, .int zc, .ref mH, .int zy, .int za, .int zb, .int zs, .int zq, .int zw, .int ze, .ref mY, .int zn', .ref mE, .int zm', .int zl', .ref mW, .int zk', .ref mO, .int zd', .ref y1, .ref y2, .ref y3, .ref y4, .ref mZ])), (mY, .inl (cI, 2600, .inl eY')), (mB, .inl (cS, 131072, .inl eB)), (mL, .inl (cI, 512, .inl eL)), (mE, .inl (cI, 2600, .inl eE')), (mW, .inl (cI, 300, .inl eW')), (mO, .inl (cI, 300, .inl eO'))] t.heap ∧ va_D A [(oM, .inr (12, [.ref mT, .int zt, .ref mS, .ref mX, .int zp, .int zf, .ref mL, .ref mB, .ref mD, .ref m1, .ref m2, .int zh, .ref mR, .int zr, .ref x1, .ref x2, .ref x3, .int zc, .ref mH, .int zy, .int za, .int zb, .int zs, .int zq, .int zw, .int ze, .ref mY, .int zn', .ref mE, .int zm', .int zl', .ref mW, .int zk', .ref mO, .int zd', .ref y1, .ref y2, .ref y3, .ref y4, .ref mZ])), (mY, .inl (cI, 2600, .inl eY')), (mB, .inl (cS, 131072, .inl eB)), (mL, .inl (cI, 512, .inl eL)), (mE, .inl (cI, 2600, .inl eE')), (mW, .inl (cI, 300, .inl eW')), (mO, .inl (cI, 300, .inl eO'))] ∧ (0 ≤ zn'.toInt ∧ zn'.toInt ≤ 2600) ∧ (rg 0 255 eY') ∧ (0 ≤ zm'.toInt ∧ zm'.toInt ≤ 2600) ∧ (rg 0 65535 eE') ∧ (0 ≤ zk'.toInt ∧ zk'.toInt ≤ 300) ∧ (rg 0 65535 eW') ∧ (rg 0 65535 eO') ∧ (0 ≤ r.toInt ∧ r.toInt ≤ 1)) A := ⟨_, rfl⟩
  rw [← hQQ]
  refine lv_aload_n hx hb dX12_undoes_0 rfl (lv_at hl 0 rfl) ?_
  refine lv_iload_n hx hb dX12_undoes_1 rfl (lv_at hl 2 rfl) ?_
  refine lv_iload_n hx hb dX12_undoes_2 rfl (lv_at hl 1 rfl) ?_
  refine lv_aload_n hx hb dX12_undoes_3 rfl (lv_at hl 0 rfl) ?_
  refine va_get (D := (dC, dI)) (ci := 12) (v := .ref mW) (C := RX12) (T := TX12) (N := 40) hx hb hts in_X12 hown hK hP 0 rfl rfl 31 (by decide) (hts (.fieldLink RX12 64 "TextMenderModel" "work" "[I") (List.mem_of_getElem? (i := 1) rfl)) (fun _ h9 => h9) rfl dX12_undoes_4 ?_
  refine lv_aload_n hx hb dX12_undoes_7 rfl (lv_at hl 0 rfl) ?_
  refine va_get (D := (dC, dI)) (ci := 12) (v := .int zk) (C := RX12) (T := TX12) (N := 40) hx hb hts in_X12 hown hK hP 0 rfl rfl 32 (by decide) (hts (.fieldLink RX12 135 "TextMenderModel" "workMany" "I") (List.mem_of_getElem? (i := 2) rfl)) (fun _ h9 => h9) rfl dX12_undoes_8 ?_
  have hPc := hP.sub (ws' := [(oM, .inr (12, [.ref mT, .int zt, .ref mS, .ref mX, .int zp, .int zf, .ref mL, .ref mB, .ref mD, .ref m1, .ref m2, .int zh, .ref mR, .int zr, .ref x1, .ref x2, .ref x3, .int zc, .ref mH, .int zy, .int za, .int zb, .int zs, .int zq, .int zw, .int ze, .ref mY, .int zn, .ref mE, .int zm, .int zl, .ref mW, .int zk, .ref mO, .int zd, .ref y1, .ref y2, .ref y3, .ref y4, .ref mZ])), (mY, .inl (cI, 2600, .inl eY)), (mB, .inl (cS, 131072, .inl eB)), (mL, .inl (cI, 512, .inl eL)), (mE, .inl (cI, 2600, .inl eE)), (mW, .inl (cI, 300, .inl eW))]) [0, 1, 2, 3, 4, 5] rfl
  have hDc := hD.sub (ws' := [(oM, .inr (12, [.ref mT, .int zt, .ref mS, .ref mX, .int zp, .int zf, .ref mL, .ref mB, .ref mD, .ref m1, .ref m2, .int zh, .ref mR, .int zr, .ref x1, .ref x2, .ref x3, .int zc, .ref mH, .int zy, .int za, .int zb, .int zs, .int zq, .int zw, .int ze, .ref mY, .int zn, .ref mE, .int zm, .int zl, .ref mW, .int zk, .ref mO, .int zd, .ref y1, .ref y2, .ref y3, .ref y4, .ref mZ])), (mY, .inl (cI, 2600, .inl eY)), (mB, .inl (cS, 131072, .inl eB)), (mL, .inl (cI, 512, .inl eL)), (mE, .inl (cI, 2600, .inl eE)), (mW, .inl (cI, 300, .inl eW))]) [0, 1, 2, 3, 4, 5] (by decide +kernel) rfl
  have hFc := va_free (wc := [(oM, .inr (12, [.ref mT, .int zt, .ref mS, .ref mX, .int zp, .int zf, .ref mL, .ref mB, .ref mD, .ref m1, .ref m2, .int zh, .ref mR, .int zr, .ref x1, .ref x2, .ref x3, .int zc, .ref mH, .int zy, .int za, .int zb, .int zs, .int zq, .int zw, .int ze, .ref mY, .int zn, .ref mE, .int zm, .int zl, .ref mW, .int zk, .ref mO, .int zd, .ref y1, .ref y2, .ref y3, .ref y4, .ref mZ])), (mY, .inl (cI, 2600, .inl eY)), (mB, .inl (cS, 131072, .inl eB)), (mL, .inl (cI, 512, .inl eL)), (mE, .inl (cI, 2600, .inl eE)), (mW, .inl (cI, 300, .inl eW))]) hD hS hA [0, 1, 2, 3, 4, 5] rfl
  refine va_calli (va_runV (As := [.int b, .int a, .ref mW, .int zk]) (rest := []) ⟨hx, hb, hml, hown, hts⟩ (m_X12_does l dC dI cI cS s.heap.size oM mW mT mS mX mL mB mD m1 m2 mR x1 x2 x3 mH mY mE mW mO y1 y2 y3 y4 mZ 300 zt zp zf zh zr zc zy za zb zs zq zw ze zn zm zl zk zd eY eB eL eE eW b a zk (g_zt) (g_zp) (g_zf) (g_zh) (g_zr) (g_zc) (g_zy) (g_za) (g_zb) (g_zs) (g_zq) (g_zn) (g_zm) (g_zk) (g_eY) (g_eB) (g_eL) (g_eE) (g_eW) (g_b) (g_a) (g_zk) (by omega) (by omega)) (cwV 4 hts gX12_undoes_X12_does rfl rfl rfl (by decide +kernel) ⟨Nat.le_of_ble_eq_true rfl, Nat.le_of_ble_eq_true rfl⟩) ⟨fun a U g mk q => by obtain ⟨q0, q1, qP, qK, qD⟩ := q; exact ⟨q0, q1, qP, va_K.moved (u := U) (U := U.calling g mk a) (Vm.Alike.refl U.vm) qK, qD⟩, va_recv hK hPc (ci := 12) (q0 := 0) rfl rfl, fun U hU hW => ⟨rfl, by rw [hU], by rw [hU]; exact hPc, va_K.moved hW.alike hK, hDc.weaken (fun _ _ _ _ => trivial)⟩⟩ rfl rfl hl.1 rfl (lv_room (Nat.le_of_ble_eq_true rfl)) dX12_undoes_11 ⟨Nat.le_of_ble_eq_true rfl, Nat.le_of_ble_eq_true rfl⟩) hS (fun q _ h => hFc q h) hFc (fun r_1 u t H1 locs ht hvm hw hB hz1 hk1 hSn => ?_)
  subst hw
  obtain ⟨zn_1, eY_1, zd_1, zm_1, zl_1, eE_1, hP1, hD1, hf1_0, hf1_1, hf1_2, hf1_3, hf1_4, hf1_5⟩ := hB
  rw [ht] at hP1
  obtain ⟨hPn, hDn⟩ := va_join (wr := [(mO, .inl (cI, 300, .inl eO))]) (w1 := [(oM, .inr (12, [.ref mT, .int zt, .ref mS, .ref mX, .int zp, .int zf, .ref mL, .ref mB, .ref mD, .ref m1, .ref m2, .int zh, .ref mR, .int zr, .ref x1, .ref x2, .ref x3, .int zc, .ref mH, .int zy, .int za, .int zb, .int zs, .int zq, .int zw, .int ze, .ref mY, .int zn_1, .ref mE, .int zm_1, .int zl_1, .ref mW, .int zk, .ref mO, .int zd_1, .ref y1, .ref y2, .ref y3, .ref y4, .ref mZ])), (mY, .inl (cI, 2600, .inl eY_1)), (mB, .inl (cS, 131072, .inl eB)), (mL, .inl (cI, 512, .inl eL)), (mE, .inl (cI, 2600, .inl eE_1)), (mW, .inl (cI, 300, .inl eW))]) hP hD [0, 1, 2, 3, 4, 5] [6] rfl rfl (by decide +kernel) (by decide +kernel) hk1 hFc hP1 hD1
  clear hP hD hS hPc hDc hFc hk1 hz1 hvm ht hP1 hD1
  generalize H1 = H at hPn hSn ⊢
  have hP : va_P (dC, dI) vwCl [(mO, .inl (cI, 300, .inl eO)), (oM, .inr (12, [.ref mT, .int zt, .ref mS, .ref mX, .int zp, .int zf, .ref mL, .ref mB, .ref mD, .ref m1, .ref m2, .int zh, .ref mR, .int zr, .ref x1, .ref x2, .ref x3, .int zc, .ref mH, .int zy, .int za, .int zb, .int zs, .int zq, .int zw, .int ze, .ref mY, .int zn_1, .ref mE, .int zm_1, .int zl_1, .ref mW, .int zk, .ref mO, .int zd_1, .ref y1, .ref y2, .ref y3, .ref y4, .ref mZ])), (mY, .inl (cI, 2600, .inl eY_1)), (mB, .inl (cS, 131072, .inl eB)), (mL, .inl (cI, 512, .inl eL)), (mE, .inl (cI, 2600, .inl eE_1)), (mW, .inl (cI, 300, .inl eW))] H := hPn
  have hD : va_D A [(mO, .inl (cI, 300, .inl eO)), (oM, .inr (12, [.ref mT, .int zt, .ref mS, .ref mX, .int zp, .int zf, .ref mL, .ref mB, .ref mD, .ref m1, .ref m2, .int zh, .ref mR, .int zr, .ref x1, .ref x2, .ref x3, .int zc, .ref mH, .int zy, .int za, .int zb, .int zs, .int zq, .int zw, .int ze, .ref mY, .int zn_1, .ref mE, .int zm_1, .int zl_1, .ref mW, .int zk, .ref mO, .int zd_1, .ref y1, .ref y2, .ref y3, .ref y4, .ref mZ])), (mY, .inl (cI, 2600, .inl eY_1)), (mB, .inl (cS, 131072, .inl eB)), (mL, .inl (cI, 512, .inl eL)), (mE, .inl (cI, 2600, .inl eE_1)), (mW, .inl (cI, 300, .inl eW))] := hDn
  have hS := hSn
  clear hPn hDn hSn
  refine lv_if_ne (tgt := 19) hx hb dX12_undoes_14 (by decide) (fun c_2 => ?_) (fun c_2 => ?_)
  · have tc_2 : ¬ r_1.toInt = 0 := v_ne c_2
    refine lv_aload_n hx hb dX12_undoes_19 rfl (lv_at hl 0 rfl) ?_
    refine va_get (D := (dC, dI)) (ci := 12) (v := .int zm_1) (C := RX12) (T := TX12) (N := 40) hx hb hts in_X12 hown hK hP 1 rfl rfl 29 (by decide) (hts (.fieldLink RX12 119 "TextMenderModel" "cameMany" "I") (List.mem_of_getElem? (i := 3) rfl)) (fun _ h9 => h9) rfl dX12_undoes_20 ?_
    refine lv_istore_n (lv' := [(3, .int zm_1), (0, .ref oM), (1, .int a), (2, .int b)]) hx hb dX12_undoes_23 rfl hl (by decide) rfl (fun ls hl => ?_)
    refine lv_iconst (v := 0) hx hb dX12_undoes_24 (by decide) ?_
    refine lv_istore (lv' := [(4, .int 0), (3, .int zm_1), (0, .ref oM), (1, .int a), (2, .int b)]) hx hb dX12_undoes_25 hl (by decide) rfl (fun ls hl => ?_)
    have LOOP_27 : ∀ (k_27 : Nat) (k : Int32) (eOa : Nat → Int32) (H : Heap) (locs : List Loc) (ls : Array Slot), MSd (300 - k.toInt : Int) k_27 → (0 ≤ k.toInt ∧ k.toInt ≤ 300) → (rg 0 65535 eOa) → va_P (dC, dI) vwCl [(mO, .inl (cI, 300, .inl eOa)), (oM, .inr (12, [.ref mT, .int zt, .ref mS, .ref mX, .int zp, .int zf, .ref mL, .ref mB, .ref mD, .ref m1, .ref m2, .int zh, .ref mR, .int zr, .ref x1, .ref x2, .ref x3, .int zc, .ref mH, .int zy, .int za, .int zb, .int zs, .int zq, .int zw, .int ze, .ref mY, .int zn_1, .ref mE, .int zm_1, .int zl_1, .ref mW, .int zk, .ref mO, .int zd_1, .ref y1, .ref y2, .ref y3, .ref y4, .ref mZ])), (mY, .inl (cI, 2600, .inl eY_1)), (mB, .inl (cS, 131072, .inl eB)), (mL, .inl (cI, 512, .inl eL)), (mE, .inl (cI, 2600, .inl eE_1)), (mW, .inl (cI, 300, .inl eW))] H → va_D A [(mO, .inl (cI, 300, .inl eOa)), (oM, .inr (12, [.ref mT, .int zt, .ref mS, .ref mX, .int zp, .int zf, .ref mL, .ref mB, .ref mD, .ref m1, .ref m2, .int zh, .ref mR, .int zr, .ref x1, .ref x2, .ref x3, .int zc, .ref mH, .int zy, .int za, .int zb, .int zs, .int zq, .int zw, .int ze, .ref mY, .int zn_1, .ref mE, .int zm_1, .int zl_1, .ref mW, .int zk, .ref mO, .int zd_1, .ref y1, .ref y2, .ref y3, .ref y4, .ref mZ])), (mY, .inl (cI, 2600, .inl eY_1)), (mB, .inl (cS, 131072, .inl eB)), (mL, .inl (cI, 512, .inl eL)), (mE, .inl (cI, 2600, .inl eE_1)), (mW, .inl (cI, 300, .inl eW))] → va_S A s.heap H locs → lv_has ls 6 [(4, .int k), (3, .int zm_1), (0, .ref oM), (1, .int a), (2, .int b)] → W p l e (headSpec wsX12_undoes ({ frames := 4, cells := 0, slots := 0, locals := 95 } : Room)).room s m ([.ref oM, .int a, .int b] : List Value).toArray below meth c H locs 0 0 (MQ below QQ ([.ref oM, .int a, .int b] : List Value).toArray s 0 0 A) (F0 m 27 ls []) := by
      clear hP hD hS hl
      intro k_27
      induction k_27 with
      | zero =>
        intro k eOa H locs ls hm_27 g_k g_eOa hP hD hS hl
        exact ms_0 hm_27
      | succ k_27 ih_27 =>
        intro k eOa H locs ls hm_27 g_k g_eOa hP hD hS hl
        refine lv_iload hx hb dX12_undoes_27 (lv_at hl 0 rfl) ?_
        refine lv_iload_n hx hb dX12_undoes_29 rfl (lv_at hl 1 rfl) ?_
        refine lv_icmp_ge (tgt := 53) hx hb dX12_undoes_30 (by decide) (fun c_3 => ?_) (fun c_3 => ?_)
        · have tc_3 : zm_1.toInt ≤ k.toInt := v_le c_3
          have JOIN_j85 : ∀ (is0 : Int32) (znj : Int32) (zdj : Int32) (zmj : Int32) (zlj : Int32) (eYj : Nat → Int32) (eEj : Nat → Int32) (H : Heap) (locs : List Loc) (ls : Array Slot), (0 ≤ is0.toInt ∧ is0.toInt ≤ 1) → (0 ≤ znj.toInt ∧ znj.toInt ≤ 2600) → (0 ≤ zmj.toInt ∧ zmj.toInt ≤ 2600) → (rg 0 255 eYj) → (rg 0 65535 eEj) → va_P (dC, dI) vwCl [(mO, .inl (cI, 300, .inl eOa)), (oM, .inr (12, [.ref mT, .int zt, .ref mS, .ref mX, .int zp, .int zf, .ref mL, .ref mB, .ref mD, .ref m1, .ref m2, .int zh, .ref mR, .int zr, .ref x1, .ref x2, .ref x3, .int zc, .ref mH, .int zy, .int za, .int zb, .int zs, .int zq, .int zw, .int ze, .ref mY, .int znj, .ref mE, .int zmj, .int zlj, .ref mW, .int zk, .ref mO, .int zdj, .ref y1, .ref y2, .ref y3, .ref y4, .ref mZ])), (mY, .inl (cI, 2600, .inl eYj)), (mB, .inl (cS, 131072, .inl eB)), (mL, .inl (cI, 512, .inl eL)), (mE, .inl (cI, 2600, .inl eEj)), (mW, .inl (cI, 300, .inl eW))] H → va_D A [(mO, .inl (cI, 300, .inl eOa)), (oM, .inr (12, [.ref mT, .int zt, .ref mS, .ref mX, .int zp, .int zf, .ref mL, .ref mB, .ref mD, .ref m1, .ref m2, .int zh, .ref mR, .int zr, .ref x1, .ref x2, .ref x3, .int zc, .ref mH, .int zy, .int za, .int zb, .int zs, .int zq, .int zw, .int ze, .ref mY, .int znj, .ref mE, .int zmj, .int zlj, .ref mW, .int zk, .ref mO, .int zdj, .ref y1, .ref y2, .ref y3, .ref y4, .ref mZ])), (mY, .inl (cI, 2600, .inl eYj)), (mB, .inl (cS, 131072, .inl eB)), (mL, .inl (cI, 512, .inl eL)), (mE, .inl (cI, 2600, .inl eEj)), (mW, .inl (cI, 300, .inl eW))] → va_S A s.heap H locs → lv_has ls 6 [(3, .int zm_1), (0, .ref oM), (1, .int a), (2, .int b), (4, .int is0)] → W p l e (headSpec wsX12_undoes ({ frames := 4, cells := 0, slots := 0, locals := 95 } : Room)).room s m ([.ref oM, .int a, .int b] : List Value).toArray below meth c H locs 0 0 (MQ below QQ ([.ref oM, .int a, .int b] : List Value).toArray s 0 0 A) (F0 m 85 ls []) := by
            clear hP hD hS hl
            intro is0 znj zdj zmj zlj eYj eEj H locs ls g_is0 g_znj g_zmj g_eYj g_eEj hP hD hS hl
            refine lv_iconst (v := 0) hx hb dX12_undoes_85 (by decide) ?_
            refine lv_istore (lv' := [(5, .int 0), (3, .int zm_1), (0, .ref oM), (1, .int a), (2, .int b), (4, .int is0)]) hx hb dX12_undoes_86 hl (by decide) rfl (fun ls hl => ?_)
            have LOOP_88 : ∀ (k_88 : Nat) (is : Int32) (k2 : Int32) (H : Heap) (locs : List Loc) (ls : Array Slot), MSd (300 - k2.toInt : Int) k_88 → (0 ≤ is.toInt ∧ is.toInt ≤ 1) → (0 ≤ k2.toInt ∧ k2.toInt ≤ 300) → va_P (dC, dI) vwCl [(mO, .inl (cI, 300, .inl eOa)), (oM, .inr (12, [.ref mT, .int zt, .ref mS, .ref mX, .int zp, .int zf, .ref mL, .ref mB, .ref mD, .ref m1, .ref m2, .int zh, .ref mR, .int zr, .ref x1, .ref x2, .ref x3, .int zc, .ref mH, .int zy, .int za, .int zb, .int zs, .int zq, .int zw, .int ze, .ref mY, .int znj, .ref mE, .int zmj, .int zlj, .ref mW, .int zk, .ref mO, .int zdj, .ref y1, .ref y2, .ref y3, .ref y4, .ref mZ])), (mY, .inl (cI, 2600, .inl eYj)), (mB, .inl (cS, 131072, .inl eB)), (mL, .inl (cI, 512, .inl eL)), (mE, .inl (cI, 2600, .inl eEj)), (mW, .inl (cI, 300, .inl eW))] H → va_D A [(mO, .inl (cI, 300, .inl eOa)), (oM, .inr (12, [.ref mT, .int zt, .ref mS, .ref mX, .int zp, .int zf, .ref mL, .ref mB, .ref mD, .ref m1, .ref m2, .int zh, .ref mR, .int zr, .ref x1, .ref x2, .ref x3, .int zc, .ref mH, .int zy, .int za, .int zb, .int zs, .int zq, .int zw, .int ze, .ref mY, .int znj, .ref mE, .int zmj, .int zlj, .ref mW, .int zk, .ref mO, .int zdj, .ref y1, .ref y2, .ref y3, .ref y4, .ref mZ])), (mY, .inl (cI, 2600, .inl eYj)), (mB, .inl (cS, 131072, .inl eB)), (mL, .inl (cI, 512, .inl eL)), (mE, .inl (cI, 2600, .inl eEj)), (mW, .inl (cI, 300, .inl eW))] → va_S A s.heap H locs → lv_has ls 6 [(5, .int k2), (3, .int zm_1), (0, .ref oM), (1, .int a), (2, .int b), (4, .int is)] → W p l e (headSpec wsX12_undoes ({ frames := 4, cells := 0, slots := 0, locals := 95 } : Room)).room s m ([.ref oM, .int a, .int b] : List Value).toArray below meth c H locs 0 0 (MQ below QQ ([.ref oM, .int a, .int b] : List Value).toArray s 0 0 A) (F0 m 88 ls []) := by
              clear hP hD hS hl
              intro k_88
              induction k_88 with
              | zero =>
                intro is k2 H locs ls hm_88 g_is g_k2 hP hD hS hl
                exact ms_0 hm_88
              | succ k_88 ih_88 =>
                intro is k2 H locs ls hm_88 g_is g_k2 hP hD hS hl
                refine lv_iload hx hb dX12_undoes_88 (lv_at hl 5 rfl) ?_
                refine lv_if_eq (tgt := 132) hx hb dX12_undoes_90 (by decide) (fun c_4 => ?_) (fun c_4 => ?_)
                · have tc_4 : is.toInt = 0 := v_eq c_4
                  refine lv_aload_n hx hb dX12_undoes_132 rfl (lv_at hl 2 rfl) ?_
                  refine lv_iconst (v := (-1)) hx hb dX12_undoes_133 (by decide) ?_
                  refine va_put (D := (dC, dI)) (ci := 12) (v := .int (-1)) (ty := .int) (C := RX12) (T := TX12) (N := 40) hx hb hts in_X12 tyX12 tyX12_ok nmX12 hown hK hP hD hS 1 rfl rfl 30 (by decide) (hts (.fieldLink RX12 102 "TextMenderModel" "faultAt" "I") (List.mem_of_getElem? (i := 6) rfl)) (fun _ h9 => h9) rfl (by decide +kernel) rfl rfl (Nat.le_of_ble_eq_true rfl) dX12_undoes_134 (fun H locs hPn hDn hSn => ?_)
                  clear hP hD hS
                  have hP : va_P (dC, dI) vwCl [(mO, .inl (cI, 300, .inl eOa)), (oM, .inr (12, [.ref mT, .int zt, .ref mS, .ref mX, .int zp, .int zf, .ref mL, .ref mB, .ref mD, .ref m1, .ref m2, .int zh, .ref mR, .int zr, .ref x1, .ref x2, .ref x3, .int zc, .ref mH, .int zy, .int za, .int zb, .int zs, .int zq, .int zw, .int ze, .ref mY, .int znj, .ref mE, .int zmj, .int (-1), .ref mW, .int zk, .ref mO, .int zdj, .ref y1, .ref y2, .ref y3, .ref y4, .ref mZ])), (mY, .inl (cI, 2600, .inl eYj)), (mB, .inl (cS, 131072, .inl eB)), (mL, .inl (cI, 512, .inl eL)), (mE, .inl (cI, 2600, .inl eEj)), (mW, .inl (cI, 300, .inl eW))] H := hPn
                  have hD : va_D A [(mO, .inl (cI, 300, .inl eOa)), (oM, .inr (12, [.ref mT, .int zt, .ref mS, .ref mX, .int zp, .int zf, .ref mL, .ref mB, .ref mD, .ref m1, .ref m2, .int zh, .ref mR, .int zr, .ref x1, .ref x2, .ref x3, .int zc, .ref mH, .int zy, .int za, .int zb, .int zs, .int zq, .int zw, .int ze, .ref mY, .int znj, .ref mE, .int zmj, .int (-1), .ref mW, .int zk, .ref mO, .int zdj, .ref y1, .ref y2, .ref y3, .ref y4, .ref mZ])), (mY, .inl (cI, 2600, .inl eYj)), (mB, .inl (cS, 131072, .inl eB)), (mL, .inl (cI, 512, .inl eL)), (mE, .inl (cI, 2600, .inl eEj)), (mW, .inl (cI, 300, .inl eW))] := hDn
                  have hS := hSn
                  clear hPn hDn hSn
                  refine lv_iload hx hb dX12_undoes_137 (lv_at hl 5 rfl) ?_
                  refine lv_if_ne (tgt := 144) hx hb dX12_undoes_139 (by decide) (fun c_5 => by exfalso; have tc_5 : ¬ is.toInt = 0 := v_ne c_5; omega) (fun c_5 => ?_)
                  have tc_5 : is.toInt = 0 := v_eq c_5
                  refine lv_iconst (v := 0) hx hb dX12_undoes_142 (by decide) ?_
                  have hP9 := hP.sub (ws' := [(oM, .inr (12, [.ref mT, .int zt, .ref mS, .ref mX, .int zp, .int zf, .ref mL, .ref mB, .ref mD, .ref m1, .ref m2, .int zh, .ref mR, .int zr, .ref x1, .ref x2, .ref x3, .int zc, .ref mH, .int zy, .int za, .int zb, .int zs, .int zq, .int zw, .int ze, .ref mY, .int znj, .ref mE, .int zmj, .int (-1), .ref mW, .int zk, .ref mO, .int zdj, .ref y1, .ref y2, .ref y3, .ref y4, .ref mZ])), (mY, .inl (cI, 2600, .inl eYj)), (mB, .inl (cS, 131072, .inl eB)), (mL, .inl (cI, 512, .inl eL)), (mE, .inl (cI, 2600, .inl eEj)), (mW, .inl (cI, 300, .inl eW)), (mO, .inl (cI, 300, .inl eOa))]) [1, 2, 3, 4, 5, 6, 0] rfl
                  have hD9 := hD.sub (ws' := [(oM, .inr (12, [.ref mT, .int zt, .ref mS, .ref mX, .int zp, .int zf, .ref mL, .ref mB, .ref mD, .ref m1, .ref m2, .int zh, .ref mR, .int zr, .ref x1, .ref x2, .ref x3, .int zc, .ref mH, .int zy, .int za, .int zb, .int zs, .int zq, .int zw, .int ze, .ref mY, .int znj, .ref mE, .int zmj, .int (-1), .ref mW, .int zk, .ref mO, .int zdj, .ref y1, .ref y2, .ref y3, .ref y4, .ref mZ])), (mY, .inl (cI, 2600, .inl eYj)), (mB, .inl (cS, 131072, .inl eB)), (mL, .inl (cI, 512, .inl eL)), (mE, .inl (cI, 2600, .inl eEj)), (mW, .inl (cI, 300, .inl eW)), (mO, .inl (cI, 300, .inl eOa))]) [1, 2, 3, 4, 5, 6, 0] (by decide +kernel) rfl
                  rw [hQQ]
                  exact W.zret (v := 0) (ty := .boolean) hx hb hr (rfl) (fun t ht hW => ⟨⟨0, 0, rfl, rfl, ⟨znj, eYj, zdj, zmj, (-1), eEj, zk, eW, eOa, by rw [ht]; exact hP9, hD9, g_znj, g_eYj, g_zmj, g_eEj, g_zk, g_eW, g_eOa, by decide⟩⟩, hS.F ht⟩) hS.2.2 dX12_undoes_143
                · have tc_4 : ¬ is.toInt = 0 := v_ne c_4
                  refine lv_iload hx hb dX12_undoes_93 (lv_at hl 0 rfl) ?_
                  refine lv_aload_n hx hb dX12_undoes_95 rfl (lv_at hl 2 rfl) ?_
                  refine va_get (D := (dC, dI)) (ci := 12) (v := .int zk) (C := RX12) (T := TX12) (N := 40) hx hb hts in_X12 hown hK hP 1 rfl rfl 32 (by decide) (hts (.fieldLink RX12 135 "TextMenderModel" "workMany" "I") (List.mem_of_getElem? (i := 2) rfl)) (fun _ h9 => h9) rfl dX12_undoes_96 ?_
                  refine lv_icmp_ge (tgt := 132) hx hb dX12_undoes_99 (by decide) (fun c_6 => ?_) (fun c_6 => ?_)
                  · have tc_6 : zk.toInt ≤ k2.toInt := v_le c_6
                    refine lv_aload_n hx hb dX12_undoes_132 rfl (lv_at hl 2 rfl) ?_
                    refine lv_iconst (v := (-1)) hx hb dX12_undoes_133 (by decide) ?_
                    refine va_put (D := (dC, dI)) (ci := 12) (v := .int (-1)) (ty := .int) (C := RX12) (T := TX12) (N := 40) hx hb hts in_X12 tyX12 tyX12_ok nmX12 hown hK hP hD hS 1 rfl rfl 30 (by decide) (hts (.fieldLink RX12 102 "TextMenderModel" "faultAt" "I") (List.mem_of_getElem? (i := 6) rfl)) (fun _ h9 => h9) rfl (by decide +kernel) rfl rfl (Nat.le_of_ble_eq_true rfl) dX12_undoes_134 (fun H locs hPn hDn hSn => ?_)
                    clear hP hD hS
                    have hP : va_P (dC, dI) vwCl [(mO, .inl (cI, 300, .inl eOa)), (oM, .inr (12, [.ref mT, .int zt, .ref mS, .ref mX, .int zp, .int zf, .ref mL, .ref mB, .ref mD, .ref m1, .ref m2, .int zh, .ref mR, .int zr, .ref x1, .ref x2, .ref x3, .int zc, .ref mH, .int zy, .int za, .int zb, .int zs, .int zq, .int zw, .int ze, .ref mY, .int znj, .ref mE, .int zmj, .int (-1), .ref mW, .int zk, .ref mO, .int zdj, .ref y1, .ref y2, .ref y3, .ref y4, .ref mZ])), (mY, .inl (cI, 2600, .inl eYj)), (mB, .inl (cS, 131072, .inl eB)), (mL, .inl (cI, 512, .inl eL)), (mE, .inl (cI, 2600, .inl eEj)), (mW, .inl (cI, 300, .inl eW))] H := hPn
                    have hD : va_D A [(mO, .inl (cI, 300, .inl eOa)), (oM, .inr (12, [.ref mT, .int zt, .ref mS, .ref mX, .int zp, .int zf, .ref mL, .ref mB, .ref mD, .ref m1, .ref m2, .int zh, .ref mR, .int zr, .ref x1, .ref x2, .ref x3, .int zc, .ref mH, .int zy, .int za, .int zb, .int zs, .int zq, .int zw, .int ze, .ref mY, .int znj, .ref mE, .int zmj, .int (-1), .ref mW, .int zk, .ref mO, .int zdj, .ref y1, .ref y2, .ref y3, .ref y4, .ref mZ])), (mY, .inl (cI, 2600, .inl eYj)), (mB, .inl (cS, 131072, .inl eB)), (mL, .inl (cI, 512, .inl eL)), (mE, .inl (cI, 2600, .inl eEj)), (mW, .inl (cI, 300, .inl eW))] := hDn
                    have hS := hSn
                    clear hPn hDn hSn
                    refine lv_iload hx hb dX12_undoes_137 (lv_at hl 5 rfl) ?_
                    refine lv_if_ne (tgt := 144) hx hb dX12_undoes_139 (by decide) (fun c_7 => ?_) (fun c_7 => by exfalso; have tc_7 : is.toInt = 0 := v_eq c_7; omega)
                    have tc_7 : ¬ is.toInt = 0 := v_ne c_7
                    refine lv_iconst (v := 0) hx hb dX12_undoes_144 (by decide) ?_
                    refine lv_istore (lv' := [(5, .int 0), (3, .int zm_1), (0, .ref oM), (1, .int a), (2, .int b), (4, .int is)]) hx hb dX12_undoes_145 hl (by decide) rfl (fun ls hl => ?_)
                    have LOOP_147 : ∀ (k_147 : Nat) (k3 : Int32) (eWa : Nat → Int32) (H : Heap) (locs : List Loc) (ls : Array Slot), MSd (300 - k3.toInt : Int) k_147 → (0 ≤ k3.toInt ∧ k3.toInt ≤ 300) → (rg 0 65535 eWa) → va_P (dC, dI) vwCl [(mO, .inl (cI, 300, .inl eOa)), (oM, .inr (12, [.ref mT, .int zt, .ref mS, .ref mX, .int zp, .int zf, .ref mL, .ref mB, .ref mD, .ref m1, .ref m2, .int zh, .ref mR, .int zr, .ref x1, .ref x2, .ref x3, .int zc, .ref mH, .int zy, .int za, .int zb, .int zs, .int zq, .int zw, .int ze, .ref mY, .int znj, .ref mE, .int zmj, .int (-1), .ref mW, .int zk, .ref mO, .int zdj, .ref y1, .ref y2, .ref y3, .ref y4, .ref mZ])), (mY, .inl (cI, 2600, .inl eYj)), (mB, .inl (cS, 131072, .inl eB)), (mL, .inl (cI, 512, .inl eL)), (mE, .inl (cI, 2600, .inl eEj)), (mW, .inl (cI, 300, .inl eWa))] H → va_D A [(mO, .inl (cI, 300, .inl eOa)), (oM, .inr (12, [.ref mT, .int zt, .ref mS, .ref mX, .int zp, .int zf, .ref mL, .ref mB, .ref mD, .ref m1, .ref m2, .int zh, .ref mR, .int zr, .ref x1, .ref x2, .ref x3, .int zc, .ref mH, .int zy, .int za, .int zb, .int zs, .int zq, .int zw, .int ze, .ref mY, .int znj, .ref mE, .int zmj, .int (-1), .ref mW, .int zk, .ref mO, .int zdj, .ref y1, .ref y2, .ref y3, .ref y4, .ref mZ])), (mY, .inl (cI, 2600, .inl eYj)), (mB, .inl (cS, 131072, .inl eB)), (mL, .inl (cI, 512, .inl eL)), (mE, .inl (cI, 2600, .inl eEj)), (mW, .inl (cI, 300, .inl eWa))] → va_S A s.heap H locs → lv_has ls 6 [(5, .int k3), (3, .int zm_1), (0, .ref oM), (1, .int a), (2, .int b), (4, .int is)] → W p l e (headSpec wsX12_undoes ({ frames := 4, cells := 0, slots := 0, locals := 95 } : Room)).room s m ([.ref oM, .int a, .int b] : List Value).toArray below meth c H locs 0 0 (MQ below QQ ([.ref oM, .int a, .int b] : List Value).toArray s 0 0 A) (F0 m 147 ls []) := by
                      clear hP hD hS hl
                      intro k_147
                      induction k_147 with
                      | zero =>
                        intro k3 eWa H locs ls hm_147 g_k3 g_eWa hP hD hS hl
                        exact ms_0 hm_147
                      | succ k_147 ih_147 =>
                        intro k3 eWa H locs ls hm_147 g_k3 g_eWa hP hD hS hl
                        refine lv_iload hx hb dX12_undoes_147 (lv_at hl 0 rfl) ?_
                        refine lv_iload_n hx hb dX12_undoes_149 rfl (lv_at hl 1 rfl) ?_
                        refine lv_icmp_ge (tgt := 173) hx hb dX12_undoes_150 (by decide) (fun c_8 => ?_) (fun c_8 => ?_)
                        · have tc_8 : zm_1.toInt ≤ k3.toInt := v_le c_8
                          refine lv_aload_n hx hb dX12_undoes_173 rfl (lv_at hl 2 rfl) ?_
                          refine lv_iload_n hx hb dX12_undoes_174 rfl (lv_at hl 1 rfl) ?_
                          refine va_put (D := (dC, dI)) (ci := 12) (v := .int zm_1) (ty := .int) (C := RX12) (T := TX12) (N := 40) hx hb hts in_X12 tyX12 tyX12_ok nmX12 hown hK hP hD hS 1 rfl rfl 32 (by decide) (hts (.fieldLink RX12 135 "TextMenderModel" "workMany" "I") (List.mem_of_getElem? (i := 2) rfl)) (fun _ h9 => h9) rfl (by decide +kernel) rfl rfl (Nat.le_of_ble_eq_true rfl) dX12_undoes_175 (fun H locs hPn hDn hSn => ?_)
                          clear hP hD hS
                          have hP : va_P (dC, dI) vwCl [(mO, .inl (cI, 300, .inl eOa)), (oM, .inr (12, [.ref mT, .int zt, .ref mS, .ref mX, .int zp, .int zf, .ref mL, .ref mB, .ref mD, .ref m1, .ref m2, .int zh, .ref mR, .int zr, .ref x1, .ref x2, .ref x3, .int zc, .ref mH, .int zy, .int za, .int zb, .int zs, .int zq, .int zw, .int ze, .ref mY, .int znj, .ref mE, .int zmj, .int (-1), .ref mW, .int zm_1, .ref mO, .int zdj, .ref y1, .ref y2, .ref y3, .ref y4, .ref mZ])), (mY, .inl (cI, 2600, .inl eYj)), (mB, .inl (cS, 131072, .inl eB)), (mL, .inl (cI, 512, .inl eL)), (mE, .inl (cI, 2600, .inl eEj)), (mW, .inl (cI, 300, .inl eWa))] H := hPn
                          have hD : va_D A [(mO, .inl (cI, 300, .inl eOa)), (oM, .inr (12, [.ref mT, .int zt, .ref mS, .ref mX, .int zp, .int zf, .ref mL, .ref mB, .ref mD, .ref m1, .ref m2, .int zh, .ref mR, .int zr, .ref x1, .ref x2, .ref x3, .int zc, .ref mH, .int zy, .int za, .int zb, .int zs, .int zq, .int zw, .int ze, .ref mY, .int znj, .ref mE, .int zmj, .int (-1), .ref mW, .int zm_1, .ref mO, .int zdj, .ref y1, .ref y2, .ref y3, .ref y4, .ref mZ])), (mY, .inl (cI, 2600, .inl eYj)), (mB, .inl (cS, 131072, .inl eB)), (mL, .inl (cI, 512, .inl eL)), (mE, .inl (cI, 2600, .inl eEj)), (mW, .inl (cI, 300, .inl eWa))] := hDn
                          have hS := hSn
                          clear hPn hDn hSn
                          refine lv_iconst (v := 1) hx hb dX12_undoes_178 (by decide) ?_
                          have hP9 := hP.sub (ws' := [(oM, .inr (12, [.ref mT, .int zt, .ref mS, .ref mX, .int zp, .int zf, .ref mL, .ref mB, .ref mD, .ref m1, .ref m2, .int zh, .ref mR, .int zr, .ref x1, .ref x2, .ref x3, .int zc, .ref mH, .int zy, .int za, .int zb, .int zs, .int zq, .int zw, .int ze, .ref mY, .int znj, .ref mE, .int zmj, .int (-1), .ref mW, .int zm_1, .ref mO, .int zdj, .ref y1, .ref y2, .ref y3, .ref y4, .ref mZ])), (mY, .inl (cI, 2600, .inl eYj)), (mB, .inl (cS, 131072, .inl eB)), (mL, .inl (cI, 512, .inl eL)), (mE, .inl (cI, 2600, .inl eEj)), (mW, .inl (cI, 300, .inl eWa)), (mO, .inl (cI, 300, .inl eOa))]) [1, 2, 3, 4, 5, 6, 0] rfl
                          have hD9 := hD.sub (ws' := [(oM, .inr (12, [.ref mT, .int zt, .ref mS, .ref mX, .int zp, .int zf, .ref mL, .ref mB, .ref mD, .ref m1, .ref m2, .int zh, .ref mR, .int zr, .ref x1, .ref x2, .ref x3, .int zc, .ref mH, .int zy, .int za, .int zb, .int zs, .int zq, .int zw, .int ze, .ref mY, .int znj, .ref mE, .int zmj, .int (-1), .ref mW, .int zm_1, .ref mO, .int zdj, .ref y1, .ref y2, .ref y3, .ref y4, .ref mZ])), (mY, .inl (cI, 2600, .inl eYj)), (mB, .inl (cS, 131072, .inl eB)), (mL, .inl (cI, 512, .inl eL)), (mE, .inl (cI, 2600, .inl eEj)), (mW, .inl (cI, 300, .inl eWa)), (mO, .inl (cI, 300, .inl eOa))]) [1, 2, 3, 4, 5, 6, 0] (by decide +kernel) rfl
                          rw [hQQ]
                          exact W.zret (v := 1) (ty := .boolean) hx hb hr (rfl) (fun t ht hW => ⟨⟨1, 1, rfl, rfl, ⟨znj, eYj, zdj, zmj, (-1), eEj, zm_1, eWa, eOa, by rw [ht]; exact hP9, hD9, g_znj, g_eYj, g_zmj, g_eEj, by omega, g_eWa, g_eOa, by decide⟩⟩, hS.F ht⟩) hS.2.2 dX12_undoes_179
                        · have tc_8 : k3.toInt < zm_1.toInt := v_nle c_8
                          refine lv_aload_n hx hb dX12_undoes_153 rfl (lv_at hl 2 rfl) ?_
                          refine va_get (D := (dC, dI)) (ci := 12) (v := .ref mW) (C := RX12) (T := TX12) (N := 40) hx hb hts in_X12 hown hK hP 1 rfl rfl 31 (by decide) (hts (.fieldLink RX12 64 "TextMenderModel" "work" "[I") (List.mem_of_getElem? (i := 1) rfl)) (fun _ h9 => h9) rfl dX12_undoes_154 ?_
                          refine lv_iload hx hb dX12_undoes_157 (lv_at hl 0 rfl) ?_
                          refine lv_aload_n hx hb dX12_undoes_159 rfl (lv_at hl 2 rfl) ?_
                          refine va_get (D := (dC, dI)) (ci := 12) (v := .ref mO) (C := RX12) (T := TX12) (N := 40) hx hb hts in_X12 hown hK hP 1 rfl rfl 33 (by decide) (hts (.fieldLink RX12 67 "TextMenderModel" "other" "[I") (List.mem_of_getElem? (i := 4) rfl)) (fun _ h9 => h9) rfl dX12_undoes_160 ?_
                          refine lv_iload hx hb dX12_undoes_163 (lv_at hl 0 rfl) ?_
                          refine va_iald hx hb hK hP 0 0 rfl rfl (v_in (by omega)) dX12_undoes_165 ?_
                          refine lv_topi (fun x_9 ex_9 => ?_)
                          have tx_9 : 0 ≤ x_9.toInt ∧ x_9.toInt ≤ 65535 := rg_at g_eOa ex_9
                          refine va_iast hx hb hK hP hD hS 6 0 rfl rfl (v_in (by omega)) dX12_undoes_166 (fun H locs hPn hDn hSn => ?_)
                          clear hP hD hS
                          have hP : va_P (dC, dI) vwCl [(mO, .inl (cI, 300, .inl eOa)), (oM, .inr (12, [.ref mT, .int zt, .ref mS, .ref mX, .int zp, .int zf, .ref mL, .ref mB, .ref mD, .ref m1, .ref m2, .int zh, .ref mR, .int zr, .ref x1, .ref x2, .ref x3, .int zc, .ref mH, .int zy, .int za, .int zb, .int zs, .int zq, .int zw, .int ze, .ref mY, .int znj, .ref mE, .int zmj, .int (-1), .ref mW, .int zk, .ref mO, .int zdj, .ref y1, .ref y2, .ref y3, .ref y4, .ref mZ])), (mY, .inl (cI, 2600, .inl eYj)), (mB, .inl (cS, 131072, .inl eB)), (mL, .inl (cI, 512, .inl eL)), (mE, .inl (cI, 2600, .inl eEj)), (mW, .inl (cI, 300, .inl (upd eWa (k3 : Int32).toNatClampNeg x_9)))] H := hPn
                          have hD : va_D A [(mO, .inl (cI, 300, .inl eOa)), (oM, .inr (12, [.ref mT, .int zt, .ref mS, .ref mX, .int zp, .int zf, .ref mL, .ref mB, .ref mD, .ref m1, .ref m2, .int zh, .ref mR, .int zr, .ref x1, .ref x2, .ref x3, .int zc, .ref mH, .int zy, .int za, .int zb, .int zs, .int zq, .int zw, .int ze, .ref mY, .int znj, .ref mE, .int zmj, .int (-1), .ref mW, .int zk, .ref mO, .int zdj, .ref y1, .ref y2, .ref y3, .ref y4, .ref mZ])), (mY, .inl (cI, 2600, .inl eYj)), (mB, .inl (cS, 131072, .inl eB)), (mL, .inl (cI, 512, .inl eL)), (mE, .inl (cI, 2600, .inl eEj)), (mW, .inl (cI, 300, .inl (upd eWa (k3 : Int32).toNatClampNeg x_9)))] := hDn
                          have hS := hSn
                          clear hPn hDn hSn
                          obtain ⟨f_10, ef_10⟩ : ∃ g : Nat → Int32, g = upd eWa (k3 : Int32).toNatClampNeg x_9 := ⟨_, rfl⟩
                          rw [← ef_10] at hP hD
                          have g_f10 : rg 0 65535 f_10 := rg_upd ef_10 g_eWa (by omega)
                          obtain ⟨x_11, ex_11⟩ : ∃ y : Int32, y = k3 + 1 := ⟨_, rfl⟩
                          have tx_11 : x_11.toInt = k3.toInt + 1 := v_add ex_11 (by show -2147483648 ≤ k3.toInt + 1; omega) (by show k3.toInt + 1 < 2147483648; omega)
                          refine lv_iinc (v := x_11) (lv' := [(5, .int x_11), (3, .int zm_1), (0, .ref oM), (1, .int a), (2, .int b), (4, .int is)]) hx hb dX12_undoes_167 hl (k := 0) rfl (by rw [ex_11]; rfl) (by decide) rfl (fun ls hl => ?_)
                          refine lv_goto (tgt := 147) hx hb dX12_undoes_170 (by decide) ?_
                          exact ih_147 x_11 f_10 _ _ _ (ms_lt hm_147 (by show ((300 - x_11.toInt : Int)) < 300 - k3.toInt; omega) (by show (0 : Int) < 300 - k3.toInt; omega)) (by show 0 ≤ x_11.toInt ∧ x_11.toInt ≤ 300; omega) (g_f10) hP hD hS (lv_sub hl [0, 1, 2, 3, 4, 5] rfl)
                    exact LOOP_147 _ 0 eW _ _ _ (ms_s _) (by decide) (g_eW) hP hD hS (lv_sub hl [0, 1, 2, 3, 4, 5] rfl)
                  · have tc_6 : k2.toInt < zk.toInt := v_nle c_6
                    refine lv_aload_n hx hb dX12_undoes_102 rfl (lv_at hl 2 rfl) ?_
                    refine va_get (D := (dC, dI)) (ci := 12) (v := .ref mE) (C := RX12) (T := TX12) (N := 40) hx hb hts in_X12 hown hK hP 1 rfl rfl 28 (by decide) (hts (.fieldLink RX12 61 "TextMenderModel" "came" "[I") (List.mem_of_getElem? (i := 5) rfl)) (fun _ h9 => h9) rfl dX12_undoes_103 ?_
                    refine lv_iload hx hb dX12_undoes_106 (lv_at hl 0 rfl) ?_
                    refine va_iald hx hb hK hP 5 0 rfl rfl (v_in (by omega)) dX12_undoes_108 ?_
                    refine lv_topi (fun x_12 ex_12 => ?_)
                    have tx_12 : 0 ≤ x_12.toInt ∧ x_12.toInt ≤ 65535 := rg_at g_eEj ex_12
                    refine lv_aload_n hx hb dX12_undoes_109 rfl (lv_at hl 2 rfl) ?_
                    refine va_get (D := (dC, dI)) (ci := 12) (v := .ref mW) (C := RX12) (T := TX12) (N := 40) hx hb hts in_X12 hown hK hP 1 rfl rfl 31 (by decide) (hts (.fieldLink RX12 64 "TextMenderModel" "work" "[I") (List.mem_of_getElem? (i := 1) rfl)) (fun _ h9 => h9) rfl dX12_undoes_110 ?_
                    refine lv_iload hx hb dX12_undoes_113 (lv_at hl 0 rfl) ?_
                    refine va_iald hx hb hK hP 6 0 rfl rfl (v_in (by omega)) dX12_undoes_115 ?_
                    refine lv_topi (fun x_13 ex_13 => ?_)
                    have tx_13 : 0 ≤ x_13.toInt ∧ x_13.toInt ≤ 65535 := rg_at g_eW ex_13
                    refine lv_icmp_ne (tgt := 123) hx hb dX12_undoes_116 (by decide) (fun c_14 => ?_) (fun c_14 => ?_)
                    · have tc_14 : ¬ x_12.toInt = x_13.toInt := v_ne c_14
                      refine lv_iconst (v := 0) hx hb dX12_undoes_123 (by decide) ?_
                      refine lv_istore (lv' := [(4, .int 0), (5, .int k2), (3, .int zm_1), (0, .ref oM), (1, .int a), (2, .int b)]) hx hb dX12_undoes_124 hl (by decide) rfl (fun ls hl => ?_)
                      obtain ⟨x_15, ex_15⟩ : ∃ y : Int32, y = k2 + 1 := ⟨_, rfl⟩
                      have tx_15 : x_15.toInt = k2.toInt + 1 := v_add ex_15 (by show -2147483648 ≤ k2.toInt + 1; omega) (by show k2.toInt + 1 < 2147483648; omega)
                      refine lv_iinc (v := x_15) (lv' := [(5, .int x_15), (4, .int 0), (3, .int zm_1), (0, .ref oM), (1, .int a), (2, .int b)]) hx hb dX12_undoes_126 hl (k := 1) rfl (by rw [ex_15]; rfl) (by decide) rfl (fun ls hl => ?_)
                      refine lv_goto (tgt := 88) hx hb dX12_undoes_129 (by decide) ?_
                      exact ih_88 0 x_15 _ _ _ (ms_lt hm_88 (by show ((300 - x_15.toInt : Int)) < 300 - k2.toInt; omega) (by show (0 : Int) < 300 - k2.toInt; omega)) (by decide) (by show 0 ≤ x_15.toInt ∧ x_15.toInt ≤ 300; omega) hP hD hS (lv_sub hl [0, 2, 3, 4, 5, 1] rfl)
                    · have tc_14 : x_12.toInt = x_13.toInt := v_eq c_14
                      refine lv_iconst (v := 1) hx hb dX12_undoes_119 (by decide) ?_
                      refine lv_goto (tgt := 124) hx hb dX12_undoes_120 (by decide) ?_
                      refine lv_istore (lv' := [(4, .int 1), (5, .int k2), (3, .int zm_1), (0, .ref oM), (1, .int a), (2, .int b)]) hx hb dX12_undoes_124 hl (by decide) rfl (fun ls hl => ?_)
                      obtain ⟨x_16, ex_16⟩ : ∃ y : Int32, y = k2 + 1 := ⟨_, rfl⟩
                      have tx_16 : x_16.toInt = k2.toInt + 1 := v_add ex_16 (by show -2147483648 ≤ k2.toInt + 1; omega) (by show k2.toInt + 1 < 2147483648; omega)
                      refine lv_iinc (v := x_16) (lv' := [(5, .int x_16), (4, .int 1), (3, .int zm_1), (0, .ref oM), (1, .int a), (2, .int b)]) hx hb dX12_undoes_126 hl (k := 1) rfl (by rw [ex_16]; rfl) (by decide) rfl (fun ls hl => ?_)
                      refine lv_goto (tgt := 88) hx hb dX12_undoes_129 (by decide) ?_
                      exact ih_88 1 x_16 _ _ _ (ms_lt hm_88 (by show ((300 - x_16.toInt : Int)) < 300 - k2.toInt; omega) (by show (0 : Int) < 300 - k2.toInt; omega)) (by decide) (by show 0 ≤ x_16.toInt ∧ x_16.toInt ≤ 300; omega) hP hD hS (lv_sub hl [0, 2, 3, 4, 5, 1] rfl)
            exact LOOP_88 _ is0 0 _ _ _ (ms_s _) (g_is0) (by decide) hP hD hS (lv_sub hl [0, 1, 2, 3, 4, 5] rfl)
          refine lv_aload_n hx hb dX12_undoes_53 rfl (lv_at hl 2 rfl) ?_
          refine lv_iload_n hx hb dX12_undoes_54 rfl (lv_at hl 3 rfl) ?_
          refine lv_iload_n hx hb dX12_undoes_55 rfl (lv_at hl 4 rfl) ?_
          refine lv_aload_n hx hb dX12_undoes_56 rfl (lv_at hl 2 rfl) ?_
          refine va_get (D := (dC, dI)) (ci := 12) (v := .ref mO) (C := RX12) (T := TX12) (N := 40) hx hb hts in_X12 hown hK hP 1 rfl rfl 33 (by decide) (hts (.fieldLink RX12 67 "TextMenderModel" "other" "[I") (List.mem_of_getElem? (i := 4) rfl)) (fun _ h9 => h9) rfl dX12_undoes_57 ?_
          refine lv_iload_n hx hb dX12_undoes_60 rfl (lv_at hl 1 rfl) ?_
          have hPc := hP.sub (ws' := [(oM, .inr (12, [.ref mT, .int zt, .ref mS, .ref mX, .int zp, .int zf, .ref mL, .ref mB, .ref mD, .ref m1, .ref m2, .int zh, .ref mR, .int zr, .ref x1, .ref x2, .ref x3, .int zc, .ref mH, .int zy, .int za, .int zb, .int zs, .int zq, .int zw, .int ze, .ref mY, .int zn_1, .ref mE, .int zm_1, .int zl_1, .ref mW, .int zk, .ref mO, .int zd_1, .ref y1, .ref y2, .ref y3, .ref y4, .ref mZ])), (mY, .inl (cI, 2600, .inl eY_1)), (mB, .inl (cS, 131072, .inl eB)), (mL, .inl (cI, 512, .inl eL)), (mE, .inl (cI, 2600, .inl eE_1)), (mO, .inl (cI, 300, .inl eOa))]) [1, 2, 3, 4, 5, 0] rfl
          have hDc := hD.sub (ws' := [(oM, .inr (12, [.ref mT, .int zt, .ref mS, .ref mX, .int zp, .int zf, .ref mL, .ref mB, .ref mD, .ref m1, .ref m2, .int zh, .ref mR, .int zr, .ref x1, .ref x2, .ref x3, .int zc, .ref mH, .int zy, .int za, .int zb, .int zs, .int zq, .int zw, .int ze, .ref mY, .int zn_1, .ref mE, .int zm_1, .int zl_1, .ref mW, .int zk, .ref mO, .int zd_1, .ref y1, .ref y2, .ref y3, .ref y4, .ref mZ])), (mY, .inl (cI, 2600, .inl eY_1)), (mB, .inl (cS, 131072, .inl eB)), (mL, .inl (cI, 512, .inl eL)), (mE, .inl (cI, 2600, .inl eE_1)), (mO, .inl (cI, 300, .inl eOa))]) [1, 2, 3, 4, 5, 0] (by decide +kernel) rfl
          have hFc := va_free (wc := [(oM, .inr (12, [.ref mT, .int zt, .ref mS, .ref mX, .int zp, .int zf, .ref mL, .ref mB, .ref mD, .ref m1, .ref m2, .int zh, .ref mR, .int zr, .ref x1, .ref x2, .ref x3, .int zc, .ref mH, .int zy, .int za, .int zb, .int zs, .int zq, .int zw, .int ze, .ref mY, .int zn_1, .ref mE, .int zm_1, .int zl_1, .ref mW, .int zk, .ref mO, .int zd_1, .ref y1, .ref y2, .ref y3, .ref y4, .ref mZ])), (mY, .inl (cI, 2600, .inl eY_1)), (mB, .inl (cS, 131072, .inl eB)), (mL, .inl (cI, 512, .inl eL)), (mE, .inl (cI, 2600, .inl eE_1)), (mO, .inl (cI, 300, .inl eOa))]) hD hS hA [1, 2, 3, 4, 5, 0] rfl
          refine va_calli (va_runV (As := [.int a, .int b, .ref mO, .int zm_1]) (rest := []) ⟨hx, hb, hml, hown, hts⟩ (m_X12_does l dC dI cI cS H.size oM mO mT mS mX mL mB mD m1 m2 mR x1 x2 x3 mH mY mE mW mO y1 y2 y3 y4 mZ 300 zt zp zf zh zr zc zy za zb zs zq zw ze zn_1 zm_1 zl_1 zk zd_1 eY_1 eB eL eE_1 eOa a b zm_1 (g_zt) (g_zp) (g_zf) (g_zh) (g_zr) (g_zc) (g_zy) (g_za) (g_zb) (g_zs) (g_zq) (hf1_0) (hf1_2) (g_zk) (hf1_1) (g_eB) (g_eL) (hf1_3) (g_eOa) (g_a) (g_b) (by omega) (by omega) (by omega)) (cwV 4 hts gX12_undoes_X12_does rfl rfl rfl (by decide +kernel) ⟨Nat.le_of_ble_eq_true rfl, Nat.le_of_ble_eq_true rfl⟩) ⟨fun a U g mk q => by obtain ⟨q0, q1, qP, qK, qD⟩ := q; exact ⟨q0, q1, qP, va_K.moved (u := U) (U := U.calling g mk a) (Vm.Alike.refl U.vm) qK, qD⟩, va_recv hK hPc (ci := 12) (q0 := 0) rfl rfl, fun U hU hW => ⟨rfl, by rw [hU], by rw [hU]; exact hPc, va_K.moved hW.alike hK, hDc.weaken (fun _ _ _ _ => trivial)⟩⟩ rfl rfl hl.1 rfl (lv_room (Nat.le_of_ble_eq_true rfl)) dX12_undoes_61 ⟨Nat.le_of_ble_eq_true rfl, Nat.le_of_ble_eq_true rfl⟩) hS (fun q _ h => hFc q h) hFc (fun r_17 u t H1 locs ht hvm hw hB hz1 hk1 hSn => ?_)
          subst hw
          obtain ⟨zn_17, eY_17, zd_17, zm_17, zl_17, eE_17, hP1, hD1, hf17_0, hf17_1, hf17_2, hf17_3, hf17_4, hf17_5⟩ := hB
          rw [ht] at hP1
          obtain ⟨hPn, hDn⟩ := va_join (wr := [(mW, .inl (cI, 300, .inl eW))]) (w1 := [(oM, .inr (12, [.ref mT, .int zt, .ref mS, .ref mX, .int zp, .int zf, .ref mL, .ref mB, .ref mD, .ref m1, .ref m2, .int zh, .ref mR, .int zr, .ref x1, .ref x2, .ref x3, .int zc, .ref mH, .int zy, .int za, .int zb, .int zs, .int zq, .int zw, .int ze, .ref mY, .int zn_17, .ref mE, .int zm_17, .int zl_17, .ref mW, .int zk, .ref mO, .int zd_17, .ref y1, .ref y2, .ref y3, .ref y4, .ref mZ])), (mY, .inl (cI, 2600, .inl eY_17)), (mB, .inl (cS, 131072, .inl eB)), (mL, .inl (cI, 512, .inl eL)), (mE, .inl (cI, 2600, .inl eE_17)), (mO, .inl (cI, 300, .inl eOa))]) hP hD [1, 2, 3, 4, 5, 0] [6] rfl rfl (by decide +kernel) (by decide +kernel) hk1 hFc hP1 hD1
          clear hP hD hS hPc hDc hFc hk1 hz1 hvm ht hP1 hD1
          generalize H1 = H at hPn hSn ⊢
          have hP : va_P (dC, dI) vwCl [(mW, .inl (cI, 300, .inl eW)), (oM, .inr (12, [.ref mT, .int zt, .ref mS, .ref mX, .int zp, .int zf, .ref mL, .ref mB, .ref mD, .ref m1, .ref m2, .int zh, .ref mR, .int zr, .ref x1, .ref x2, .ref x3, .int zc, .ref mH, .int zy, .int za, .int zb, .int zs, .int zq, .int zw, .int ze, .ref mY, .int zn_17, .ref mE, .int zm_17, .int zl_17, .ref mW, .int zk, .ref mO, .int zd_17, .ref y1, .ref y2, .ref y3, .ref y4, .ref mZ])), (mY, .inl (cI, 2600, .inl eY_17)), (mB, .inl (cS, 131072, .inl eB)), (mL, .inl (cI, 512, .inl eL)), (mE, .inl (cI, 2600, .inl eE_17)), (mO, .inl (cI, 300, .inl eOa))] H := hPn
          have hD : va_D A [(mW, .inl (cI, 300, .inl eW)), (oM, .inr (12, [.ref mT, .int zt, .ref mS, .ref mX, .int zp, .int zf, .ref mL, .ref mB, .ref mD, .ref m1, .ref m2, .int zh, .ref mR, .int zr, .ref x1, .ref x2, .ref x3, .int zc, .ref mH, .int zy, .int za, .int zb, .int zs, .int zq, .int zw, .int ze, .ref mY, .int zn_17, .ref mE, .int zm_17, .int zl_17, .ref mW, .int zk, .ref mO, .int zd_17, .ref y1, .ref y2, .ref y3, .ref y4, .ref mZ])), (mY, .inl (cI, 2600, .inl eY_17)), (mB, .inl (cS, 131072, .inl eB)), (mL, .inl (cI, 512, .inl eL)), (mE, .inl (cI, 2600, .inl eE_17)), (mO, .inl (cI, 300, .inl eOa))] := hDn
          have hS := hSn
          clear hPn hDn hSn
          refine lv_if_eq (tgt := 82) hx hb dX12_undoes_64 (by decide) (fun c_18 => ?_) (fun c_18 => ?_)
          · have tc_18 : r_17.toInt = 0 := v_eq c_18
            refine lv_iconst (v := 0) hx hb dX12_undoes_82 (by decide) ?_
            refine lv_istore (lv' := [(4, .int 0), (3, .int zm_1), (0, .ref oM), (1, .int a), (2, .int b)]) hx hb dX12_undoes_83 hl (by decide) rfl (fun ls hl => ?_)
            exact JOIN_j85 0 zn_17 zd_17 zm_17 zl_17 eY_17 eE_17 _ _ _ (by decide) (hf17_0) (hf17_2) (hf17_1) (hf17_3) (hP.sub [6, 1, 2, 3, 4, 5, 0] rfl) (hD.sub [6, 1, 2, 3, 4, 5, 0] (by decide +kernel) rfl) hS (lv_sub hl [1, 2, 3, 4, 0] rfl)
          · have tc_18 : ¬ r_17.toInt = 0 := v_ne c_18
            refine lv_aload_n hx hb dX12_undoes_67 rfl (lv_at hl 2 rfl) ?_
            refine va_get (D := (dC, dI)) (ci := 12) (v := .int zm_17) (C := RX12) (T := TX12) (N := 40) hx hb hts in_X12 hown hK hP 1 rfl rfl 29 (by decide) (hts (.fieldLink RX12 119 "TextMenderModel" "cameMany" "I") (List.mem_of_getElem? (i := 3) rfl)) (fun _ h9 => h9) rfl dX12_undoes_68 ?_
            refine lv_aload_n hx hb dX12_undoes_71 rfl (lv_at hl 2 rfl) ?_
            refine va_get (D := (dC, dI)) (ci := 12) (v := .int zk) (C := RX12) (T := TX12) (N := 40) hx hb hts in_X12 hown hK hP 1 rfl rfl 32 (by decide) (hts (.fieldLink RX12 135 "TextMenderModel" "workMany" "I") (List.mem_of_getElem? (i := 2) rfl)) (fun _ h9 => h9) rfl dX12_undoes_72 ?_
            refine lv_icmp_ne (tgt := 82) hx hb dX12_undoes_75 (by decide) (fun c_19 => ?_) (fun c_19 => ?_)
            · have tc_19 : ¬ zm_17.toInt = zk.toInt := v_ne c_19
              refine lv_iconst (v := 0) hx hb dX12_undoes_82 (by decide) ?_
              refine lv_istore (lv' := [(4, .int 0), (3, .int zm_1), (0, .ref oM), (1, .int a), (2, .int b)]) hx hb dX12_undoes_83 hl (by decide) rfl (fun ls hl => ?_)
              exact JOIN_j85 0 zn_17 zd_17 zm_17 zl_17 eY_17 eE_17 _ _ _ (by decide) (hf17_0) (hf17_2) (hf17_1) (hf17_3) (hP.sub [6, 1, 2, 3, 4, 5, 0] rfl) (hD.sub [6, 1, 2, 3, 4, 5, 0] (by decide +kernel) rfl) hS (lv_sub hl [1, 2, 3, 4, 0] rfl)
            · have tc_19 : zm_17.toInt = zk.toInt := v_eq c_19
              refine lv_iconst (v := 1) hx hb dX12_undoes_78 (by decide) ?_
              refine lv_goto (tgt := 83) hx hb dX12_undoes_79 (by decide) ?_
              refine lv_istore (lv' := [(4, .int 1), (3, .int zm_1), (0, .ref oM), (1, .int a), (2, .int b)]) hx hb dX12_undoes_83 hl (by decide) rfl (fun ls hl => ?_)
              exact JOIN_j85 1 zn_17 zd_17 zm_17 zl_17 eY_17 eE_17 _ _ _ (by decide) (hf17_0) (hf17_2) (hf17_1) (hf17_3) (hP.sub [6, 1, 2, 3, 4, 5, 0] rfl) (hD.sub [6, 1, 2, 3, 4, 5, 0] (by decide +kernel) rfl) hS (lv_sub hl [1, 2, 3, 4, 0] rfl)
        · have tc_3 : k.toInt < zm_1.toInt := v_nle c_3
          refine lv_aload_n hx hb dX12_undoes_33 rfl (lv_at hl 2 rfl) ?_
          refine va_get (D := (dC, dI)) (ci := 12) (v := .ref mO) (C := RX12) (T := TX12) (N := 40) hx hb hts in_X12 hown hK hP 1 rfl rfl 33 (by decide) (hts (.fieldLink RX12 67 "TextMenderModel" "other" "[I") (List.mem_of_getElem? (i := 4) rfl)) (fun _ h9 => h9) rfl dX12_undoes_34 ?_
          refine lv_iload hx hb dX12_undoes_37 (lv_at hl 0 rfl) ?_
          refine lv_aload_n hx hb dX12_undoes_39 rfl (lv_at hl 2 rfl) ?_
          refine va_get (D := (dC, dI)) (ci := 12) (v := .ref mE) (C := RX12) (T := TX12) (N := 40) hx hb hts in_X12 hown hK hP 1 rfl rfl 28 (by decide) (hts (.fieldLink RX12 61 "TextMenderModel" "came" "[I") (List.mem_of_getElem? (i := 5) rfl)) (fun _ h9 => h9) rfl dX12_undoes_40 ?_
          refine lv_iload hx hb dX12_undoes_43 (lv_at hl 0 rfl) ?_
          refine va_iald hx hb hK hP 5 0 rfl rfl (v_in (by omega)) dX12_undoes_45 ?_
          refine lv_topi (fun x_20 ex_20 => ?_)
          have tx_20 : 0 ≤ x_20.toInt ∧ x_20.toInt ≤ 65535 := rg_at hf1_3 ex_20
          refine va_iast hx hb hK hP hD hS 0 0 rfl rfl (v_in (by omega)) dX12_undoes_46 (fun H locs hPn hDn hSn => ?_)
          clear hP hD hS
          have hP : va_P (dC, dI) vwCl [(mO, .inl (cI, 300, .inl (upd eOa (k : Int32).toNatClampNeg x_20))), (oM, .inr (12, [.ref mT, .int zt, .ref mS, .ref mX, .int zp, .int zf, .ref mL, .ref mB, .ref mD, .ref m1, .ref m2, .int zh, .ref mR, .int zr, .ref x1, .ref x2, .ref x3, .int zc, .ref mH, .int zy, .int za, .int zb, .int zs, .int zq, .int zw, .int ze, .ref mY, .int zn_1, .ref mE, .int zm_1, .int zl_1, .ref mW, .int zk, .ref mO, .int zd_1, .ref y1, .ref y2, .ref y3, .ref y4, .ref mZ])), (mY, .inl (cI, 2600, .inl eY_1)), (mB, .inl (cS, 131072, .inl eB)), (mL, .inl (cI, 512, .inl eL)), (mE, .inl (cI, 2600, .inl eE_1)), (mW, .inl (cI, 300, .inl eW))] H := hPn
          have hD : va_D A [(mO, .inl (cI, 300, .inl (upd eOa (k : Int32).toNatClampNeg x_20))), (oM, .inr (12, [.ref mT, .int zt, .ref mS, .ref mX, .int zp, .int zf, .ref mL, .ref mB, .ref mD, .ref m1, .ref m2, .int zh, .ref mR, .int zr, .ref x1, .ref x2, .ref x3, .int zc, .ref mH, .int zy, .int za, .int zb, .int zs, .int zq, .int zw, .int ze, .ref mY, .int zn_1, .ref mE, .int zm_1, .int zl_1, .ref mW, .int zk, .ref mO, .int zd_1, .ref y1, .ref y2, .ref y3, .ref y4, .ref mZ])), (mY, .inl (cI, 2600, .inl eY_1)), (mB, .inl (cS, 131072, .inl eB)), (mL, .inl (cI, 512, .inl eL)), (mE, .inl (cI, 2600, .inl eE_1)), (mW, .inl (cI, 300, .inl eW))] := hDn
          have hS := hSn
          clear hPn hDn hSn
          obtain ⟨f_21, ef_21⟩ : ∃ g : Nat → Int32, g = upd eOa (k : Int32).toNatClampNeg x_20 := ⟨_, rfl⟩
          rw [← ef_21] at hP hD
          have g_f21 : rg 0 65535 f_21 := rg_upd ef_21 g_eOa (by omega)
          obtain ⟨x_22, ex_22⟩ : ∃ y : Int32, y = k + 1 := ⟨_, rfl⟩
          have tx_22 : x_22.toInt = k.toInt + 1 := v_add ex_22 (by show -2147483648 ≤ k.toInt + 1; omega) (by show k.toInt + 1 < 2147483648; omega)
          refine lv_iinc (v := x_22) (lv' := [(4, .int x_22), (3, .int zm_1), (0, .ref oM), (1, .int a), (2, .int b)]) hx hb dX12_undoes_47 hl (k := 0) rfl (by rw [ex_22]; rfl) (by decide) rfl (fun ls hl => ?_)
          refine lv_goto (tgt := 27) hx hb dX12_undoes_50 (by decide) ?_
          exact ih_27 x_22 f_21 _ _ _ (ms_lt hm_27 (by show ((300 - x_22.toInt : Int)) < 300 - k.toInt; omega) (by show (0 : Int) < 300 - k.toInt; omega)) (by show 0 ≤ x_22.toInt ∧ x_22.toInt ≤ 300; omega) (g_f21) hP hD hS (lv_sub hl [0, 1, 2, 3, 4] rfl)
    exact LOOP_27 _ 0 eO _ _ _ (ms_s _) (by decide) (g_eO) hP hD hS (lv_sub hl [0, 1, 2, 3, 4] rfl)
  · have tc_2 : r_1.toInt = 0 := v_eq c_2
    refine lv_iconst (v := 0) hx hb dX12_undoes_17 (by decide) ?_
    have hP9 := hP.sub (ws' := [(oM, .inr (12, [.ref mT, .int zt, .ref mS, .ref mX, .int zp, .int zf, .ref mL, .ref mB, .ref mD, .ref m1, .ref m2, .int zh, .ref mR, .int zr, .ref x1, .ref x2, .ref x3, .int zc, .ref mH, .int zy, .int za, .int zb, .int zs, .int zq, .int zw, .int ze, .ref mY, .int zn_1, .ref mE, .int zm_1, .int zl_1, .ref mW, .int zk, .ref mO, .int zd_1, .ref y1, .ref y2, .ref y3, .ref y4, .ref mZ])), (mY, .inl (cI, 2600, .inl eY_1)), (mB, .inl (cS, 131072, .inl eB)), (mL, .inl (cI, 512, .inl eL)), (mE, .inl (cI, 2600, .inl eE_1)), (mW, .inl (cI, 300, .inl eW)), (mO, .inl (cI, 300, .inl eO))]) [1, 2, 3, 4, 5, 6, 0] rfl
    have hD9 := hD.sub (ws' := [(oM, .inr (12, [.ref mT, .int zt, .ref mS, .ref mX, .int zp, .int zf, .ref mL, .ref mB, .ref mD, .ref m1, .ref m2, .int zh, .ref mR, .int zr, .ref x1, .ref x2, .ref x3, .int zc, .ref mH, .int zy, .int za, .int zb, .int zs, .int zq, .int zw, .int ze, .ref mY, .int zn_1, .ref mE, .int zm_1, .int zl_1, .ref mW, .int zk, .ref mO, .int zd_1, .ref y1, .ref y2, .ref y3, .ref y4, .ref mZ])), (mY, .inl (cI, 2600, .inl eY_1)), (mB, .inl (cS, 131072, .inl eB)), (mL, .inl (cI, 512, .inl eL)), (mE, .inl (cI, 2600, .inl eE_1)), (mW, .inl (cI, 300, .inl eW)), (mO, .inl (cI, 300, .inl eO))]) [1, 2, 3, 4, 5, 6, 0] (by decide +kernel) rfl
    rw [hQQ]
    exact W.zret (v := 0) (ty := .boolean) hx hb hr (rfl) (fun t ht hW => ⟨⟨0, 0, rfl, rfl, ⟨zn_1, eY_1, zd_1, zm_1, zl_1, eE_1, zk, eW, eO, by rw [ht]; exact hP9, hD9, hf1_0, hf1_1, hf1_2, hf1_3, g_zk, g_eW, g_eO, by decide⟩⟩, hS.F ht⟩) hS.2.2 dX12_undoes_18

set_option maxHeartbeats 40000000 in
set_option maxRecDepth 100000 in
theorem m_X12_takeText (l : Launch) (dC : Nat → ClassId) (dI : Nat → Nat → Nat) (cI cS : ClassId) (sz : Nat) (oM : Nat) (mT : Nat) (mS : Nat) (mX : Nat) (mL : Nat) (mB : Nat) (mD : Nat) (m1 : Nat) (m2 : Nat) (mR : Nat) (x1 : Nat) (x2 : Nat) (x3 : Nat) (mH : Nat) (mY : Nat) (mE : Nat) (mW : Nat) (mO : Nat) (y1 : Nat) (y2 : Nat) (y3 : Nat) (y4 : Nat) (mZ : Nat) (zt : Int32) (zp : Int32) (zf : Int32) (zh : Int32) (zr : Int32) (zc : Int32) (zy : Int32) (za : Int32) (zb : Int32) (zs : Int32) (zq : Int32) (zw : Int32) (ze : Int32) (zn : Int32) (zm : Int32) (zl : Int32) (zk : Int32) (zd : Int32) (eS : Nat → Int32) (eX : Nat → Int32) (eW : Nat → Int32) (g_zt : 0 ≤ zt.toInt ∧ zt.toInt ≤ 900) (g_zp : 0 ≤ zp.toInt ∧ zp.toInt ≤ 20) (g_zf : 0 ≤ zf.toInt ∧ zf.toInt ≤ 19) (g_zh : 0 ≤ zh.toInt ∧ zh.toInt ≤ 6) (g_zr : 0 ≤ zr.toInt ∧ zr.toInt ≤ 258) (g_zc : 0 ≤ zc.toInt ∧ zc.toInt ≤ 300) (g_zy : 0 ≤ zy.toInt ∧ zy.toInt ≤ 65536) (g_za : 0 ≤ za.toInt ∧ za.toInt ≤ 5) (g_zb : 0 ≤ zb.toInt ∧ zb.toInt ≤ 5) (g_zs : 0 ≤ zs.toInt ∧ zs.toInt ≤ 2000000) (g_zq : -1 ≤ zq.toInt ∧ zq.toInt ≤ 2000000) (g_zn : 0 ≤ zn.toInt ∧ zn.toInt ≤ 2600) (g_zm : 0 ≤ zm.toInt ∧ zm.toInt ≤ 2600) (g_zk : 0 ≤ zk.toInt ∧ zk.toInt ≤ 300) (g_eS : rg 0 300 eS) (g_eX : rg 0 65535 eX) (g_eW : rg 0 65535 eW) : Met l yX12_takeText wsX12_takeText ({ frames := 0, cells := 0, slots := 0, locals := 0 } : Room) (va_Pc [.ref oM] (fun U => U.heap.size = sz ∧ va_P (dC, dI) vwCl [(oM, .inr (12, [.ref mT, .int zt, .ref mS, .ref mX, .int zp, .int zf, .ref mL, .ref mB, .ref mD, .ref m1, .ref m2, .int zh, .ref mR, .int zr, .ref x1, .ref x2, .ref x3, .int zc, .ref mH, .int zy, .int za, .int zb, .int zs, .int zq, .int zw, .int ze, .ref mY, .int zn, .ref mE, .int zm, .int zl, .ref mW, .int zk, .ref mO, .int zd, .ref y1, .ref y2, .ref y3, .ref y4, .ref mZ])), (mS, .inl (cI, 21, .inl eS)), (mX, .inl (cI, 6300, .inl eX)), (mW, .inl (cI, 300, .inl eW))] U.heap ∧ va_K (dC, dI) vwCl [(cI, .int), (cS, .short)] U ∧ va_D (fun _ => True) [(oM, .inr (12, [.ref mT, .int zt, .ref mS, .ref mX, .int zp, .int zf, .ref mL, .ref mB, .ref mD, .ref m1, .ref m2, .int zh, .ref mR, .int zr, .ref x1, .ref x2, .ref x3, .int zc, .ref mH, .int zy, .int za, .int zb, .int zs, .int zq, .int zw, .int ze, .ref mY, .int zn, .ref mE, .int zm, .int zl, .ref mW, .int zk, .ref mO, .int zd, .ref y1, .ref y2, .ref y3, .ref y4, .ref mZ])), (mS, .inl (cI, 21, .inl eS)), (mX, .inl (cI, 6300, .inl eX)), (mW, .inl (cI, 300, .inl eW))])) (va_Qv (fun (_ : Unit) => True) (fun _ t => ∃ (zk' : Int32) (eW' : Nat → Int32), va_P (dC, dI) vwCl [(oM, .inr (12, [.ref mT, .int zt, .ref mS, .ref mX, .int zp, .int zf, .ref mL, .ref mB, .ref mD, .ref m1, .ref m2, .int zh, .ref mR, .int zr, .ref x1, .ref x2, .ref x3, .int zc, .ref mH, .int zy, .int za, .int zb, .int zs, .int zq, .int zw, .int ze, .ref mY, .int zn, .ref mE, .int zm, .int zl, .ref mW, .int zk', .ref mO, .int zd, .ref y1, .ref y2, .ref y3, .ref y4, .ref mZ])), (mS, .inl (cI, 21, .inl eS)), (mX, .inl (cI, 6300, .inl eX)), (mW, .inl (cI, 300, .inl eW'))] t.heap ∧ va_D (va_A [(oM, .inr (12, [.ref mT, .int zt, .ref mS, .ref mX, .int zp, .int zf, .ref mL, .ref mB, .ref mD, .ref m1, .ref m2, .int zh, .ref mR, .int zr, .ref x1, .ref x2, .ref x3, .int zc, .ref mH, .int zy, .int za, .int zb, .int zs, .int zq, .int zw, .int ze, .ref mY, .int zn, .ref mE, .int zm, .int zl, .ref mW, .int zk, .ref mO, .int zd, .ref y1, .ref y2, .ref y3, .ref y4, .ref mZ])), (mS, .inl (cI, 21, .inl eS)), (mX, .inl (cI, 6300, .inl eX)), (mW, .inl (cI, 300, .inl eW))] sz) [(oM, .inr (12, [.ref mT, .int zt, .ref mS, .ref mX, .int zp, .int zf, .ref mL, .ref mB, .ref mD, .ref m1, .ref m2, .int zh, .ref mR, .int zr, .ref x1, .ref x2, .ref x3, .int zc, .ref mH, .int zy, .int za, .int zb, .int zs, .int zq, .int zw, .int ze, .ref mY, .int zn, .ref mE, .int zm, .int zl, .ref mW, .int zk', .ref mO, .int zd, .ref y1, .ref y2, .ref y3, .ref y4, .ref mZ])), (mS, .inl (cI, 21, .inl eS)), (mX, .inl (cI, 6300, .inl eX)), (mW, .inl (cI, 300, .inl eW'))] ∧ (0 ≤ zk'.toInt ∧ zk'.toInt ≤ 300) ∧ (rg 0 65535 eW')) (va_A [(oM, .inr (12, [.ref mT, .int zt, .ref mS, .ref mX, .int zp, .int zf, .ref mL, .ref mB, .ref mD, .ref m1, .ref m2, .int zh, .ref mR, .int zr, .ref x1, .ref x2, .ref x3, .int zc, .ref mH, .int zy, .int za, .int zb, .int zs, .int zq, .int zw, .int ze, .ref mY, .int zn, .ref mE, .int zm, .int zl, .ref mW, .int zk, .ref mO, .int zd, .ref y1, .ref y2, .ref y3, .ref y4, .ref mZ])), (mS, .inl (cI, 21, .inl eS)), (mX, .inl (cI, 6300, .inl eX)), (mW, .inl (cI, 300, .inl eW))] sz)) 0 0 (va_A [(oM, .inr (12, [.ref mT, .int zt, .ref mS, .ref mX, .int zp, .int zf, .ref mL, .ref mB, .ref mD, .ref m1, .ref m2, .int zh, .ref mR, .int zr, .ref x1, .ref x2, .ref x3, .int zc, .ref mH, .int zy, .int za, .int zb, .int zs, .int zq, .int zw, .int ze, .ref mY, .int zn, .ref mE, .int zm, .int zl, .ref mW, .int zk, .ref mO, .int zd, .ref y1, .ref y2, .ref y3, .ref y4, .ref mZ])), (mS, .inl (cI, 21, .inl eS)), (mX, .inl (cI, 6300, .inl eX)), (mW, .inl (cI, 300, .inl eW))] sz) := by
  refine Met.ofW (cc := cX12_takeText) (maxL := 2) (ret := none) (by decide) rfl ?_
  intro p e s m args below meth c s₁ B hml hv
  obtain ⟨rfl, hsz, hP, hK, hD0⟩ := hv
  have hx := B.exec
  have hb := B.bytes
  have hr := B.returns
  have hts := atoms_spec (ws := wsX12_takeText) B.pre
  have hown : s.vm.findClass RX12 = some m.cls := findClass_of_methodNamed B.named
  have hlocks := B.notSynchronized
  have in_X12 : ∀ w ∈ wsX120, w ∈ wsX12_takeText := fun _ h => List.mem_cons_of_mem _ (List.mem_append_right _ (h))
  subst hsz
  have hD := hD0.self (sz := s.heap.size)
  generalize hAe : va_A [(oM, .inr (12, [.ref mT, .int zt, .ref mS, .ref mX, .int zp, .int zf, .ref mL, .ref mB, .ref mD, .ref m1, .ref m2, .int zh, .ref mR, .int zr, .ref x1, .ref x2, .ref x3, .int zc, .ref mH, .int zy, .int za, .int zb, .int zs, .int zq, .int zw, .int ze, .ref mY, .int zn, .ref mE, .int zm, .int zl, .ref mW, .int zk, .ref mO, .int zd, .ref y1, .ref y2, .ref y3, .ref y4, .ref mZ])), (mS, .inl (cI, 21, .inl eS)), (mX, .inl (cI, 6300, .inl eX)), (mW, .inl (cI, 300, .inl eW))] s.heap.size = A at hD ⊢
  have hA : ∀ q : Nat, s.heap.size ≤ q → A q := fun q h => by rw [← hAe]; exact Or.inr h
  have hS : va_S A s.heap s.heap [] := va_S.rf
  have hP : va_P (dC, dI) vwCl [(oM, .inr (12, [.ref mT, .int zt, .ref mS, .ref mX, .int zp, .int zf, .ref mL, .ref mB, .ref mD, .ref m1, .ref m2, .int zh, .ref mR, .int zr, .ref x1, .ref x2, .ref x3, .int zc, .ref mH, .int zy, .int za, .int zb, .int zs, .int zq, .int zw, .int ze, .ref mY, .int zn, .ref mE, .int zm, .int zl, .ref mW, .int zk, .ref mO, .int zd, .ref y1, .ref y2, .ref y3, .ref y4, .ref mZ])), (mS, .inl (cI, 21, .inl eS)), (mX, .inl (cI, 6300, .inl eX)), (mW, .inl (cI, 300, .inl eW))] s.heap := hP
  have hl := lv_entry ([.ref oM]) (n := 2) (Nat.le_of_ble_eq_true rfl)
  rw [lg_entry_eq]
  generalize (lg_sl ([.ref oM]) ++ List.replicate (2 - (lg_sl ([.ref oM])).length) Slot.unset).toArray = ls at hl ⊢
  have hl : lv_has ls 2 [(0, .ref oM)] := hl
  obtain ⟨QQ, hQQ⟩ : ∃ QQ : Array Value → State → Outcome → State → Prop, QQ = va_Qv (fun (_ : Unit) => True) (fun _ t => ∃ (zk' : Int32) (eW' : Nat → Int32), va_P (dC, dI) vwCl [(oM, .inr (12, [.ref mT, .int zt, .ref mS, .ref mX, .int zp, .int zf, .ref mL, .ref mB, .ref mD, .ref m1, .ref m2, .int zh, .ref mR, .int zr, .ref x1, .ref x2, .ref x3, .int zc, .ref mH, .int zy, .int za, .int zb, .int zs, .int zq, .int zw, .int ze, .ref mY, .int zn, .ref mE, .int zm, .int zl, .ref mW, .int zk', .ref mO, .int zd, .ref y1, .ref y2, .ref y3, .ref y4, .ref mZ])), (mS, .inl (cI, 21, .inl eS)), (mX, .inl (cI, 6300, .inl eX)), (mW, .inl (cI, 300, .inl eW'))] t.heap ∧ va_D A [(oM, .inr (12, [.ref mT, .int zt, .ref mS, .ref mX, .int zp, .int zf, .ref mL, .ref mB, .ref mD, .ref m1, .ref m2, .int zh, .ref mR, .int zr, .ref x1, .ref x2, .ref x3, .int zc, .ref mH, .int zy, .int za, .int zb, .int zs, .int zq, .int zw, .int ze, .ref mY, .int zn, .ref mE, .int zm, .int zl, .ref mW, .int zk', .ref mO, .int zd, .ref y1, .ref y2, .ref y3, .ref y4, .ref mZ])), (mS, .inl (cI, 21, .inl eS)), (mX, .inl (cI, 6300, .inl eX)), (mW, .inl (cI, 300, .inl eW'))] ∧ (0 ≤ zk'.toInt ∧ zk'.toInt ≤ 300) ∧ (rg 0 65535 eW')) A := ⟨_, rfl⟩
  rw [← hQQ]
  refine lv_aload_n hx hb dX12_takeText_0 rfl (lv_at hl 0 rfl) ?_
  refine lv_aload_n hx hb dX12_takeText_1 rfl (lv_at hl 0 rfl) ?_
  refine va_get (D := (dC, dI)) (ci := 12) (v := .ref mS) (C := RX12) (T := TX12) (N := 40) hx hb hts in_X12 hown hK hP 0 rfl rfl 2 (by decide) (hts (.fieldLink RX12 13 "TextMenderModel" "sizes" "[I") (List.mem_of_getElem? (i := 1) rfl)) (fun _ h9 => h9) rfl dX12_takeText_2 ?_
  refine lv_iconst (v := 0) hx hb dX12_takeText_5 (by decide) ?_
  refine va_iald hx hb hK hP 1 0 rfl rfl (by unfold vp_in; decide) dX12_takeText_6 ?_
  refine lv_topi (fun x_1 ex_1 => ?_)
  have tx_1 : 0 ≤ x_1.toInt ∧ x_1.toInt ≤ 300 := rg_at g_eS ex_1
  refine va_put (D := (dC, dI)) (ci := 12) (v := .int x_1) (ty := .int) (C := RX12) (T := TX12) (N := 40) hx hb hts in_X12 tyX12 tyX12_ok nmX12 hown hK hP hD hS 0 rfl rfl 32 (by decide) (hts (.fieldLink RX12 135 "TextMenderModel" "workMany" "I") (List.mem_of_getElem? (i := 2) rfl)) (fun _ h9 => h9) rfl (by decide +kernel) rfl rfl (Nat.le_of_ble_eq_true rfl) dX12_takeText_7 (fun H locs hPn hDn hSn => ?_)
  clear hP hD hS
  have hP : va_P (dC, dI) vwCl [(oM, .inr (12, [.ref mT, .int zt, .ref mS, .ref mX, .int zp, .int zf, .ref mL, .ref mB, .ref mD, .ref m1, .ref m2, .int zh, .ref mR, .int zr, .ref x1, .ref x2, .ref x3, .int zc, .ref mH, .int zy, .int za, .int zb, .int zs, .int zq, .int zw, .int ze, .ref mY, .int zn, .ref mE, .int zm, .int zl, .ref mW, .int x_1, .ref mO, .int zd, .ref y1, .ref y2, .ref y3, .ref y4, .ref mZ])), (mS, .inl (cI, 21, .inl eS)), (mX, .inl (cI, 6300, .inl eX)), (mW, .inl (cI, 300, .inl eW))] H := hPn
  have hD : va_D A [(oM, .inr (12, [.ref mT, .int zt, .ref mS, .ref mX, .int zp, .int zf, .ref mL, .ref mB, .ref mD, .ref m1, .ref m2, .int zh, .ref mR, .int zr, .ref x1, .ref x2, .ref x3, .int zc, .ref mH, .int zy, .int za, .int zb, .int zs, .int zq, .int zw, .int ze, .ref mY, .int zn, .ref mE, .int zm, .int zl, .ref mW, .int x_1, .ref mO, .int zd, .ref y1, .ref y2, .ref y3, .ref y4, .ref mZ])), (mS, .inl (cI, 21, .inl eS)), (mX, .inl (cI, 6300, .inl eX)), (mW, .inl (cI, 300, .inl eW))] := hDn
  have hS := hSn
  clear hPn hDn hSn
  refine lv_iconst (v := 0) hx hb dX12_takeText_10 (by decide) ?_
  refine lv_istore_n (lv' := [(1, .int 0), (0, .ref oM)]) hx hb dX12_takeText_11 rfl hl (by decide) rfl (fun ls hl => ?_)
  have LOOP_12 : ∀ (k_12 : Nat) (k : Int32) (eWa : Nat → Int32) (H : Heap) (locs : List Loc) (ls : Array Slot), MSd (300 - k.toInt : Int) k_12 → (0 ≤ k.toInt ∧ k.toInt ≤ 300) → (rg 0 65535 eWa) → va_P (dC, dI) vwCl [(oM, .inr (12, [.ref mT, .int zt, .ref mS, .ref mX, .int zp, .int zf, .ref mL, .ref mB, .ref mD, .ref m1, .ref m2, .int zh, .ref mR, .int zr, .ref x1, .ref x2, .ref x3, .int zc, .ref mH, .int zy, .int za, .int zb, .int zs, .int zq, .int zw, .int ze, .ref mY, .int zn, .ref mE, .int zm, .int zl, .ref mW, .int x_1, .ref mO, .int zd, .ref y1, .ref y2, .ref y3, .ref y4, .ref mZ])), (mS, .inl (cI, 21, .inl eS)), (mX, .inl (cI, 6300, .inl eX)), (mW, .inl (cI, 300, .inl eWa))] H → va_D A [(oM, .inr (12, [.ref mT, .int zt, .ref mS, .ref mX, .int zp, .int zf, .ref mL, .ref mB, .ref mD, .ref m1, .ref m2, .int zh, .ref mR, .int zr, .ref x1, .ref x2, .ref x3, .int zc, .ref mH, .int zy, .int za, .int zb, .int zs, .int zq, .int zw, .int ze, .ref mY, .int zn, .ref mE, .int zm, .int zl, .ref mW, .int x_1, .ref mO, .int zd, .ref y1, .ref y2, .ref y3, .ref y4, .ref mZ])), (mS, .inl (cI, 21, .inl eS)), (mX, .inl (cI, 6300, .inl eX)), (mW, .inl (cI, 300, .inl eWa))] → va_S A s.heap H locs → lv_has ls 2 [(1, .int k), (0, .ref oM)] → W p l e (headSpec wsX12_takeText ({ frames := 0, cells := 0, slots := 0, locals := 0 } : Room)).room s m ([.ref oM] : List Value).toArray below meth c H locs 0 0 (MQ below QQ ([.ref oM] : List Value).toArray s 0 0 A) (F0 m 12 ls []) := by
    clear hP hD hS hl
    intro k_12
    induction k_12 with
    | zero =>
      intro k eWa H locs ls hm_12 g_k g_eWa hP hD hS hl
      exact ms_0 hm_12
    | succ k_12 ih_12 =>
      intro k eWa H locs ls hm_12 g_k g_eWa hP hD hS hl
      refine lv_iload_n hx hb dX12_takeText_12 rfl (lv_at hl 0 rfl) ?_
      refine lv_aload_n hx hb dX12_takeText_13 rfl (lv_at hl 1 rfl) ?_
      refine va_get (D := (dC, dI)) (ci := 12) (v := .int x_1) (C := RX12) (T := TX12) (N := 40) hx hb hts in_X12 hown hK hP 0 rfl rfl 32 (by decide) (hts (.fieldLink RX12 135 "TextMenderModel" "workMany" "I") (List.mem_of_getElem? (i := 2) rfl)) (fun _ h9 => h9) rfl dX12_takeText_14 ?_
      refine lv_icmp_ge (tgt := 38) hx hb dX12_takeText_17 (by decide) (fun c_2 => ?_) (fun c_2 => ?_)
      · have tc_2 : x_1.toInt ≤ k.toInt := v_le c_2
        have hP9 := hP.sub (ws' := [(oM, .inr (12, [.ref mT, .int zt, .ref mS, .ref mX, .int zp, .int zf, .ref mL, .ref mB, .ref mD, .ref m1, .ref m2, .int zh, .ref mR, .int zr, .ref x1, .ref x2, .ref x3, .int zc, .ref mH, .int zy, .int za, .int zb, .int zs, .int zq, .int zw, .int ze, .ref mY, .int zn, .ref mE, .int zm, .int zl, .ref mW, .int x_1, .ref mO, .int zd, .ref y1, .ref y2, .ref y3, .ref y4, .ref mZ])), (mS, .inl (cI, 21, .inl eS)), (mX, .inl (cI, 6300, .inl eX)), (mW, .inl (cI, 300, .inl eWa))]) [0, 1, 2, 3] rfl
        have hD9 := hD.sub (ws' := [(oM, .inr (12, [.ref mT, .int zt, .ref mS, .ref mX, .int zp, .int zf, .ref mL, .ref mB, .ref mD, .ref m1, .ref m2, .int zh, .ref mR, .int zr, .ref x1, .ref x2, .ref x3, .int zc, .ref mH, .int zy, .int za, .int zb, .int zs, .int zq, .int zw, .int ze, .ref mY, .int zn, .ref mE, .int zm, .int zl, .ref mW, .int x_1, .ref mO, .int zd, .ref y1, .ref y2, .ref y3, .ref y4, .ref mZ])), (mS, .inl (cI, 21, .inl eS)), (mX, .inl (cI, 6300, .inl eX)), (mW, .inl (cI, 300, .inl eWa))]) [0, 1, 2, 3] (by decide +kernel) rfl
        rw [hQQ]
        exact W.vret hx hb hr (fun t ht hW => ⟨⟨(), rfl, trivial, ⟨x_1, eWa, by rw [ht]; exact hP9, hD9, by omega, g_eWa⟩⟩, hS.F ht⟩) hS.2.2 dX12_takeText_38
      · have tc_2 : k.toInt < x_1.toInt := v_nle c_2
        refine lv_aload_n hx hb dX12_takeText_20 rfl (lv_at hl 1 rfl) ?_
        refine va_get (D := (dC, dI)) (ci := 12) (v := .ref mW) (C := RX12) (T := TX12) (N := 40) hx hb hts in_X12 hown hK hP 0 rfl rfl 31 (by decide) (hts (.fieldLink RX12 64 "TextMenderModel" "work" "[I") (List.mem_of_getElem? (i := 3) rfl)) (fun _ h9 => h9) rfl dX12_takeText_21 ?_
        refine lv_iload_n hx hb dX12_takeText_24 rfl (lv_at hl 0 rfl) ?_
        refine lv_aload_n hx hb dX12_takeText_25 rfl (lv_at hl 1 rfl) ?_
        refine va_get (D := (dC, dI)) (ci := 12) (v := .ref mX) (C := RX12) (T := TX12) (N := 40) hx hb hts in_X12 hown hK hP 0 rfl rfl 3 (by decide) (hts (.fieldLink RX12 16 "TextMenderModel" "texts" "[I") (List.mem_of_getElem? (i := 4) rfl)) (fun _ h9 => h9) rfl dX12_takeText_26 ?_
        refine lv_iload_n hx hb dX12_takeText_29 rfl (lv_at hl 0 rfl) ?_
        refine va_iald hx hb hK hP 2 0 rfl rfl (v_in (by omega)) dX12_takeText_30 ?_
        refine lv_topi (fun x_3 ex_3 => ?_)
        have tx_3 : 0 ≤ x_3.toInt ∧ x_3.toInt ≤ 65535 := rg_at g_eX ex_3
        refine va_iast hx hb hK hP hD hS 3 0 rfl rfl (v_in (by omega)) dX12_takeText_31 (fun H locs hPn hDn hSn => ?_)
        clear hP hD hS
        have hP : va_P (dC, dI) vwCl [(oM, .inr (12, [.ref mT, .int zt, .ref mS, .ref mX, .int zp, .int zf, .ref mL, .ref mB, .ref mD, .ref m1, .ref m2, .int zh, .ref mR, .int zr, .ref x1, .ref x2, .ref x3, .int zc, .ref mH, .int zy, .int za, .int zb, .int zs, .int zq, .int zw, .int ze, .ref mY, .int zn, .ref mE, .int zm, .int zl, .ref mW, .int x_1, .ref mO, .int zd, .ref y1, .ref y2, .ref y3, .ref y4, .ref mZ])), (mS, .inl (cI, 21, .inl eS)), (mX, .inl (cI, 6300, .inl eX)), (mW, .inl (cI, 300, .inl (upd eWa (k : Int32).toNatClampNeg x_3)))] H := hPn
        have hD : va_D A [(oM, .inr (12, [.ref mT, .int zt, .ref mS, .ref mX, .int zp, .int zf, .ref mL, .ref mB, .ref mD, .ref m1, .ref m2, .int zh, .ref mR, .int zr, .ref x1, .ref x2, .ref x3, .int zc, .ref mH, .int zy, .int za, .int zb, .int zs, .int zq, .int zw, .int ze, .ref mY, .int zn, .ref mE, .int zm, .int zl, .ref mW, .int x_1, .ref mO, .int zd, .ref y1, .ref y2, .ref y3, .ref y4, .ref mZ])), (mS, .inl (cI, 21, .inl eS)), (mX, .inl (cI, 6300, .inl eX)), (mW, .inl (cI, 300, .inl (upd eWa (k : Int32).toNatClampNeg x_3)))] := hDn
        have hS := hSn
        clear hPn hDn hSn
        obtain ⟨f_4, ef_4⟩ : ∃ g : Nat → Int32, g = upd eWa (k : Int32).toNatClampNeg x_3 := ⟨_, rfl⟩
        rw [← ef_4] at hP hD
        have g_f4 : rg 0 65535 f_4 := rg_upd ef_4 g_eWa (by omega)
        obtain ⟨x_5, ex_5⟩ : ∃ y : Int32, y = k + 1 := ⟨_, rfl⟩
        have tx_5 : x_5.toInt = k.toInt + 1 := v_add ex_5 (by show -2147483648 ≤ k.toInt + 1; omega) (by show k.toInt + 1 < 2147483648; omega)
        refine lv_iinc (v := x_5) (lv' := [(1, .int x_5), (0, .ref oM)]) hx hb dX12_takeText_32 hl (k := 0) rfl (by rw [ex_5]; rfl) (by decide) rfl (fun ls hl => ?_)
        refine lv_goto (tgt := 12) hx hb dX12_takeText_35 (by decide) ?_
        exact ih_12 x_5 f_4 _ _ _ (ms_lt hm_12 (by show ((300 - x_5.toInt : Int)) < 300 - k.toInt; omega) (by show (0 : Int) < 300 - k.toInt; omega)) (by show 0 ≤ x_5.toInt ∧ x_5.toInt ≤ 300; omega) (g_f4) hP hD hS (lv_sub hl [0, 1] rfl)
  exact LOOP_12 _ 0 eW _ _ _ (ms_s _) (by decide) (g_eW) hP hD hS (lv_sub hl [0, 1] rfl)

end
