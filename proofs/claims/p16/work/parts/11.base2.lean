/-! numbers of 32 bits by their integers; rows whose entries lie between two integers -/
theorem v_rng (x : Int32) : -2147483648 ≤ x.toInt ∧ x.toInt < 2147483648 := by
  have h1 := Int32.toInt_lt x
  have h2 := Int32.le_toInt x
  omega
theorem v_bmod {z : Int} (h1 : -2147483648 ≤ z) (h2 : z < 2147483648) : z.bmod (2 ^ 32) = z := Int.bmod_eq_of_le (by omega) (by omega)
theorem v_add {a b x : Int32} (h : x = a + b) (h1 : -2147483648 ≤ a.toInt + b.toInt) (h2 : a.toInt + b.toInt < 2147483648) : x.toInt = a.toInt + b.toInt := by
  rw [h, Int32.toInt_add]; exact v_bmod h1 h2
theorem v_sub {a b x : Int32} (h : x = a - b) (h1 : -2147483648 ≤ a.toInt - b.toInt) (h2 : a.toInt - b.toInt < 2147483648) : x.toInt = a.toInt - b.toInt := by
  rw [h, Int32.toInt_sub]; exact v_bmod h1 h2
theorem v_mul {a b x : Int32} (h : x = a * b) (h1 : -2147483648 ≤ a.toInt * b.toInt) (h2 : a.toInt * b.toInt < 2147483648) : x.toInt = a.toInt * b.toInt := by
  rw [h, Int32.toInt_mul]; exact v_bmod h1 h2
theorem v_div {a b x : Int32} (h : x = a / b) (h1 : 0 ≤ a.toInt) (h2 : 0 < b.toInt) : x.toInt = a.toInt / b.toInt := by
  rw [h, Int32.toInt_div_of_ne_right _ _ (fun e => by rw [e] at h2; exact absurd h2 (by decide))]
  exact Int.tdiv_eq_ediv_of_nonneg h1
theorem v_rem {a b x : Int32} (h : x = a - a / b * b) (h1 : 0 ≤ a.toInt) (h2 : 0 < b.toInt) : x.toInt = a.toInt % b.toInt := by
  have hq := v_div (x := a / b) rfl h1 h2
  have ha := v_rng a
  have e1 := Int.mul_ediv_add_emod a.toInt b.toInt
  have e2 : 0 ≤ a.toInt % b.toInt := Int.emod_nonneg _ (by omega)
  have e3 : a.toInt / b.toInt * b.toInt = b.toInt * (a.toInt / b.toInt) := Int.mul_comm _ _
  have e4 : 0 ≤ b.toInt * (a.toInt / b.toInt) := Int.mul_nonneg (by omega) (Int.ediv_nonneg h1 (by omega))
  have hm := v_mul (x := a / b * b) rfl (by rw [hq, e3]; omega) (by rw [hq, e3]; omega)
  rw [hq] at hm
  have hs := v_sub (x := a - a / b * b) rfl (by rw [hm, e3]; omega) (by rw [hm, e3]; omega)
  rw [h, hs, hm, e3]; omega
theorem v_and {a x m : Int32} (k : Nat) (h : x = a &&& m) (hm : m.toBitVec.toNat = 2 ^ k - 1) (hk : k ≤ 30) : 0 ≤ x.toInt ∧ x.toInt < ((2 ^ k : Nat) : Int) := by
  rw [h]; exact vp_in_iff.mp (pk_andIn a k hm hk)
theorem v_ushr {a s x : Int32} (k : Nat) (h : x = (a.toUInt32 >>> (s.toUInt32 &&& Int32.toUInt32 31)).toInt32) (hs : ((s.toUInt32 &&& Int32.toUInt32 31).toBitVec % 32).toNat = k) (hk : 1 ≤ k) (hk2 : k ≤ 31) : 0 ≤ x.toInt ∧ x.toInt < ((2 ^ (32 - k) : Nat) : Int) := by
  have e1 := pk_ushr a s k hs
  rw [← h] at e1
  have hb := a.toBitVec.isLt
  have h2 : a.toBitVec.toNat / 2 ^ k < 2 ^ (32 - k) := by
    apply Nat.div_lt_of_lt_mul
    rw [← Nat.pow_add]
    have : k + (32 - k) = 32 := by omega
    rw [this]; exact hb
  have h3 : 2 ^ (32 - k) ≤ 2 ^ 31 := Nat.pow_le_pow_right (by decide) (by omega)
  have ex : x = nI (a.toBitVec.toNat / 2 ^ k) := by
    apply Int32.toBitVec_inj.mp
    apply BitVec.eq_of_toNat_eq
    rw [e1, pk_tn (by omega)]
  rw [ex, nI_toInt (by omega)]
  exact ⟨Int.natCast_nonneg _, by exact_mod_cast h2⟩
theorem v_shr {a s x : Int32} (k : Nat) (h : x = a >>> s) (hs : (s.toBitVec.smod 32).toNat = k) : x.toInt = a.toInt / ((2 ^ k : Nat) : Int) := by
  rw [h, pk_shr a s k hs, Int.shiftRight_eq_div_pow]
theorem v_lt {a b : Int32} (h : a < b) : a.toInt < b.toInt := Int32.lt_iff_toInt_lt.mp h
theorem v_le {a b : Int32} (h : a ≤ b) : a.toInt ≤ b.toInt := Int32.le_iff_toInt_le.mp h
theorem v_nlt {a b : Int32} (h : ¬ a < b) : b.toInt ≤ a.toInt := Int32.le_iff_toInt_le.mp (Int32.not_lt.mp h)
theorem v_nle {a b : Int32} (h : ¬ a ≤ b) : b.toInt < a.toInt := Int32.lt_iff_toInt_lt.mp (Int32.not_le.mp h)
theorem v_eq {a b : Int32} (h : a = b) : a.toInt = b.toInt := by rw [h]
theorem v_ne {a b : Int32} (h : ¬ a = b) : ¬ a.toInt = b.toInt := fun e => h (Int32.toInt_inj.mp e)
theorem v_inj {a b : Int32} (h : a.toInt = b.toInt) : a = b := Int32.toInt_inj.mp h
theorem v_in {x : Int32} {n : Nat} (h : 0 ≤ x.toInt ∧ x.toInt < n) : vp_in x n := vp_in_iff.mpr h
theorem v_clamp {x : Int32} (h : 0 ≤ x.toInt) : (x.toNatClampNeg : Int) = x.toInt := by
  show ((x.toInt.toNat : Nat) : Int) = x.toInt
  omega
theorem v_nat {N : Nat} (h : N < 2 ^ 31) : (Int32.ofNat N).toInt = (N : Int) := Int32.toInt_ofNat_of_lt h
theorem v_bool {v : Int32} (h : 0 ≤ v.toInt ∧ v.toInt ≤ 1) : narrow .boolean (.int v) = .int v := by
  have h2 : v = 0 ∨ v = 1 := by
    rcases (show v.toInt = 0 ∨ v.toInt = 1 by omega) with z | z
    · exact Or.inl (Int32.toInt_inj.mp z)
    · exact Or.inr (Int32.toInt_inj.mp z)
  rcases h2 with rfl | rfl <;> rfl
/-- every entry lies between lo and hi -/
def rg (lo hi : Int) (f : Nat → Int32) : Prop := ∀ j, lo ≤ (f j).toInt ∧ (f j).toInt ≤ hi
theorem rg_at {lo hi : Int} {f : Nat → Int32} {x : Int32} {j : Nat} (h : rg lo hi f) (e : x = f j) : lo ≤ x.toInt ∧ x.toInt ≤ hi := by rw [e]; exact h j
theorem rg_upd {lo hi : Int} {f g : Nat → Int32} {k : Nat} {v : Int32} (e : g = upd f k v) (h : rg lo hi f) (hv : lo ≤ v.toInt ∧ v.toInt ≤ hi) : rg lo hi g := by
  intro j
  rw [e]
  by_cases z : j = k
  · rw [z, pk_us]; exact hv
  · rw [pk_un z]; exact h j
theorem rg_cpy {lo hi : Int} {f g q : Nat → Int32} {sp dp n : Nat} (e : q = va_cpy f g sp dp n) (hf : rg lo hi f) (hg : rg lo hi g) : rg lo hi q := by
  intro j
  rw [e]
  unfold va_cpy
  split
  · exact hf _
  · exact hg _
theorem rg_mono {lo hi lo2 hi2 : Int} {f : Nat → Int32} (h : rg lo hi f) (h1 : lo2 ≤ lo) (h2 : hi ≤ hi2) : rg lo2 hi2 f := fun j => by
  have := h j
  omega
theorem rg_c {lo hi : Int} {v : Int32} (h : lo ≤ v.toInt ∧ v.toInt ≤ hi) : rg lo hi (fun _ => v) := fun _ => h
theorem v_nneg {x : Int32} (h : 0 ≤ x.toInt) : ¬ x < 0 := fun z => by
  have := v_lt z
  have e : (0 : Int32).toInt = 0 := rfl
  omega
theorem v_cp {sp n : Int32} {N : Nat} (h1 : 0 ≤ sp.toInt) (h2 : 0 ≤ n.toInt) (h : sp.toInt + n.toInt ≤ N) : sp.toNatClampNeg + n.toNatClampNeg ≤ N := by
  have a := v_clamp h1
  have b := v_clamp h2
  omega
theorem v_max {a b x : Int32} (h : x = if a < b then b else a) : a.toInt ≤ x.toInt ∧ b.toInt ≤ x.toInt ∧ (x.toInt = a.toInt ∨ x.toInt = b.toInt) := by
  by_cases c : a < b
  · rw [if_pos c] at h
    have := v_lt c
    subst h
    omega
  · rw [if_neg c] at h
    have := v_nlt c
    subst h
    omega
theorem v_min {a b x : Int32} (h : x = if b < a then b else a) : x.toInt ≤ a.toInt ∧ x.toInt ≤ b.toInt ∧ (x.toInt = a.toInt ∨ x.toInt = b.toInt) := by
  by_cases c : b < a
  · rw [if_pos c] at h
    have := v_lt c
    subst h
    omega
  · rw [if_neg c] at h
    have := v_nlt c
    subst h
    omega
theorem v_i2s {a x : Int32} (h : x = a.toInt16.toInt32) (hr : -32768 ≤ a.toInt ∧ a.toInt ≤ 32767) : x.toInt = a.toInt := by
  rw [h, Int16.toInt_toInt32, Int32.toInt_toInt16]
  exact Int.bmod_eq_of_le (by omega) (by omega)
theorem v_nars {v : Int32} {lo hi : Int} (h : lo ≤ v.toInt ∧ v.toInt ≤ hi) (h2 : -32768 ≤ v.toInt ∧ v.toInt ≤ 32767) : lo ≤ (vp_nar .short v).toInt ∧ (vp_nar .short v).toInt ≤ hi := by
  have e : (vp_nar .short v).toInt = v.toInt := v_i2s (x := vp_nar .short v) rfl h2
  rw [e]; exact h
theorem v_remr {a b x : Int32} (h : x = a - a / b * b) (h1 : 0 ≤ a.toInt) (h2 : 1 ≤ b.toInt) : 0 ≤ x.toInt ∧ x.toInt < b.toInt := by
  rw [v_rem h h1 (by omega)]
  exact ⟨Int.emod_nonneg _ (by omega), Int.emod_lt_of_pos _ (by omega)⟩
theorem v_divr {a b x : Int32} (h : x = a / b) (h1 : 0 ≤ a.toInt) (h2 : 1 ≤ b.toInt) : 0 ≤ x.toInt ∧ x.toInt ≤ a.toInt := by
  rw [v_div h h1 (by omega)]
  exact ⟨Int.ediv_nonneg h1 (by omega), Int.ediv_le_self _ h1⟩
theorem v_01 {v : Int32} (h : 0 ≤ v.toInt ∧ v.toInt ≤ 1) : v = 0 ∨ v = 1 := by
  rcases (show v.toInt = 0 ∨ v.toInt = 1 by omega) with z | z
  · exact Or.inl (Int32.toInt_inj.mp z)
  · exact Or.inr (Int32.toInt_inj.mp z)
theorem v_fitb {v : Int32} (h : 0 ≤ v.toInt ∧ v.toInt ≤ 1) : fits .boolean (.int v) = true := by
  rcases v_01 h with rfl | rfl <;> rfl
/-- what add, get, cut of a row with its length do -/
def F_add (cap : Nat) (l l' r : Int32) (f f' : Nat → Int32) (v : Int32) : Prop := (l.toInt < cap ∧ l'.toInt = l.toInt + 1 ∧ r = 1 ∧ f' = upd f l.toNatClampNeg v) ∨ (cap ≤ l.toInt ∧ l' = l ∧ r = 0 ∧ f' = f)
def F_get (l i r : Int32) (f : Nat → Int32) : Prop := (0 ≤ i.toInt ∧ i.toInt < l.toInt ∧ r = f i.toNatClampNeg) ∨ ((i.toInt < 0 ∨ l.toInt ≤ i.toInt) ∧ r = -1)
def F_cut (l l' n : Int32) : Prop := (0 ≤ n.toInt ∧ n.toInt < l.toInt ∧ l' = n) ∨ ((n.toInt < 0 ∨ l.toInt ≤ n.toInt) ∧ l' = l)
def F_addAll (cap : Nat) (l l' lo r : Int32) (f f' g : Nat → Int32) : Prop := (l.toInt + lo.toInt ≤ cap ∧ l'.toInt = l.toInt + lo.toInt ∧ r = 1 ∧ f' = va_cpy g f 0 l.toNatClampNeg lo.toNatClampNeg) ∨ (cap < l.toInt + lo.toInt ∧ l' = l ∧ r = 0 ∧ f' = f)
theorem v_nz {y : Int32} (h : ¬ y.toInt = 0) : ¬ y = 0 := fun e => h (by rw [e]; rfl)
def F_fill (n : Nat) (f' : Nat → Int32) (v : Int32) : Prop := ∀ j : Nat, j < n → f' j = v
theorem v_fill {f g : Nat → Int32} {k i' v : Int32} (e : g = upd f k.toNatClampNeg v) (hk : 0 ≤ k.toInt) (h : ∀ j : Nat, (j : Int) < k.toInt → f j = v) (hi : i'.toInt = k.toInt + 1) : ∀ j : Nat, (j : Int) < i'.toInt → g j = v := by
  intro j hj
  have a := v_clamp hk
  rw [e]
  by_cases z : j = k.toNatClampNeg
  · rw [z, pk_us]
  · rw [pk_un z]; exact h j (by omega)
theorem F_add_l {cap : Nat} {l l' r : Int32} {f f' : Nat → Int32} {v : Int32} (h : F_add cap l l' r f f' v) (hl : l.toInt < cap) : l'.toInt = l.toInt + 1 := by
  rcases h with h | h
  · exact h.2.1
  · have := h.1
    omega
theorem F_add_f {cap : Nat} {l l' r : Int32} {f f' : Nat → Int32} {v : Int32} (h : F_add cap l l' r f f' v) (hl : l.toInt < cap) : f' = upd f l.toNatClampNeg v := by
  rcases h with h | h
  · exact h.2.2.2
  · have := h.1
    omega
theorem F_cut_l {l l' n : Int32} (h : F_cut l l' n) (h0 : 0 ≤ n.toInt) (hn : n.toInt ≤ l.toInt) : l'.toInt = n.toInt := by
  rcases h with h | h
  · rw [h.2.2]
  · rw [h.2]
    have := h.1
    omega
/-! a measure that falls -/
def MSd (z : Int) (k : Nat) : Prop := z.toNat < k
theorem ms_s (z : Int) : MSd z (z.toNat + 1) := Nat.lt_succ_self _
theorem ms_0 {z : Int} {P : Prop} (h : MSd z 0) : P := absurd h (Nat.not_lt_zero _)
theorem ms_lt {a b : Int} {k : Nat} (h : MSd a (k + 1)) (h1 : b < a) (h2 : 0 < a) : MSd b k := by
  unfold MSd at *
  omega
/-! contracts told once: a method's world, what it answers, what it leaves; calls, stores and ends in one row each -/
def kP (sz : Nat) (D : va_G) (cl : List vw_C) (tys : List (ClassId × FieldType)) (w : va_W) (X : State → Prop) (U : State) : Prop := U.heap.size = sz ∧ va_P D cl w U.heap ∧ va_K D cl tys U ∧ va_D (fun _ => True) w ∧ X U
def kPD (D : va_G) (cl : List vw_C) (A : Nat → Prop) (w : va_W) (H : Heap) : Prop := va_P D cl w H ∧ va_D A w
def kX (s : State) (X : State → Prop) : Prop := (∀ U : State, s.WarmedH U.vm → X U) ∧ ∀ (a : Array Value) (U : State) (g : JFrame) (mk : MethodId), X U → X (U.calling g mk a)
theorem kX_t {s : State} : kX s (fun _ => True) := ⟨fun _ _ => trivial, fun _ _ _ _ h => h⟩
theorem kX_1 {s : State} {a : String} {i : Nat} {x : MethodName} {h : String} (z : va_Nw (.methodLinkNest a i x h) s) : kX s (va_Nw (.methodLinkNest a i x h)) := ⟨fun _ hW => va_Nw.warmM hW z, fun _ _ _ _ q => va_Nw.same rfl rfl q⟩
theorem kX_2 {s : State} {X Y : State → Prop} (hx : kX s X) (hy : kX s Y) : kX s (fun U => X U ∧ Y U) := ⟨fun U hW => ⟨hx.1 U hW, hy.1 U hW⟩, fun a U g mk q => ⟨hx.2 a U g mk q.1, hy.2 a U g mk q.2⟩⟩
theorem kP.blind {av : List Value} {sz : Nat} {D : va_G} {cl : List vw_C} {tys : List (ClassId × FieldType)} {w : va_W} {X : State → Prop} (hX : ∀ (a : Array Value) (U : State) (g : JFrame) (mk : MethodId), X U → X (U.calling g mk a)) : FrameBlind (va_Pc av (kP sz D cl tys w X)) := fun a U g mk q => by
  obtain ⟨q0, q1, qP, qK, qD, qX⟩ := q
  exact ⟨q0, q1, qP, va_K.moved (u := U) (U := U.calling g mk a) (Vm.Alike.refl U.vm) qK, qD, hX a U g mk qX⟩
def kQi (B : Int32 → Heap → Prop) (A : Nat → Prop) : Array Value → State → Outcome → State → Prop := va_Qi (fun (r : Int32) (u : Int32) => r = u) (fun (r : Int32) (t : State) => B r t.heap) A
def kQv (B : Heap → Prop) (A : Nat → Prop) : Array Value → State → Outcome → State → Prop := va_Qv (fun (_ : Unit) => True) (fun _ (t : State) => B t.heap) A
def kQr (B : Nat → Heap → Prop) (A : Nat → Prop) : Array Value → State → Outcome → State → Prop := va_Qr (fun (_ : Unit) => True) (fun _ (ra : Nat) (t : State) => B ra t.heap) A
def kQq (B : Heap → Prop) (A : Nat → Prop) : Array Value → State → Outcome → State → Prop := va_Qq (fun (r : Option Nat) (_ : Unit) => r = none) (fun _ (t : State) => B t.heap) A

def kMi (l : Launch) (y : MethodName) (ws : List Cond) (rm : Room) (av : List Value) (sz : Nat) (D : va_G) (cl : List vw_C) (tys : List (ClassId × FieldType)) (w : va_W) (X : State → Prop) (mc ms : Nat) (B : (Nat → Prop) → Int32 → Heap → Prop) : Prop := Met l y ws rm (va_Pc av (kP sz D cl tys w X)) (kQi (B (va_A w sz)) (va_A w sz)) mc ms (va_A w sz)

def kMv (l : Launch) (y : MethodName) (ws : List Cond) (rm : Room) (av : List Value) (sz : Nat) (D : va_G) (cl : List vw_C) (tys : List (ClassId × FieldType)) (w : va_W) (X : State → Prop) (mc ms : Nat) (B : (Nat → Prop) → Heap → Prop) : Prop := Met l y ws rm (va_Pc av (kP sz D cl tys w X)) (kQv (B (va_A w sz)) (va_A w sz)) mc ms (va_A w sz)

def kMr (l : Launch) (y : MethodName) (ws : List Cond) (rm : Room) (av : List Value) (sz : Nat) (D : va_G) (cl : List vw_C) (tys : List (ClassId × FieldType)) (w : va_W) (X : State → Prop) (mc ms : Nat) (B : (Nat → Prop) → Nat → Heap → Prop) : Prop := Met l y ws rm (va_Pc av (kP sz D cl tys w X)) (kQr (B (va_A w sz)) (va_A w sz)) mc ms (va_A w sz)

def kMq (l : Launch) (y : MethodName) (ws : List Cond) (rm : Room) (av : List Value) (sz : Nat) (D : va_G) (cl : List vw_C) (tys : List (ClassId × FieldType)) (w : va_W) (X : State → Prop) (mc ms : Nat) (B : (Nat → Prop) → Heap → Prop) : Prop := Met l y ws rm (va_Pc av (kP sz D cl tys w X)) (kQq (B (va_A w sz)) (va_A w sz)) mc ms (va_A w sz)

theorem kMi_of {l : Launch} {y : MethodName} {ws ws' : List Cond} {rm : Room} {av : List Value} {sz : Nat} {D : va_G} {cl : List vw_C} {tys : List (ClassId × FieldType)} {w : va_W} {X : State → Prop} {mc ms : Nat} {B : (Nat → Prop) → Int32 → Heap → Prop} {cc : ByteArray} {maxL : Nat} {ret : Option FieldType} {lv : List (Nat × Value)}
    (hy : plainName y.cls = true) (hw : ws = Cond.code y cc maxL ret :: ws') (hlv : lv_args 0 av = lv) (hle : (lg_sl av).length ≤ maxL)
    (body : ∀ (p : Program) (e : Env) (s : State) (m : MethodId) (below : List Frame) (meth : Method) (c : Code) (A : Nat → Prop) (QQ : Array Value → State → Outcome → State → Prop) (ls : Array Slot), p.tables.exec = Jvm.exec → c.code = cc → meth.sig.returnType = ret → (∀ z ∈ ws, z.before av.toArray s = true) → c.maxLocals = maxL → s.vm.findClass y.cls = some m.cls → meth.locks = false → (∀ q : Nat, s.heap.size ≤ q → A q) → QQ = kQi (B A) A → va_K D cl tys s → X s → va_P D cl w s.heap → va_D A w → va_S A s.heap s.heap [] → lv_has ls maxL lv →
      W p l e (headSpec ws rm).room s m av.toArray below meth c s.heap [] 0 0 (MQ below QQ av.toArray s mc ms A) (F0 m 0 ls [])) : kMi l y ws rm av sz D cl tys w X mc ms B := by
  unfold kMi
  refine Met.ofW (cc := cc) (maxL := maxL) (ret := ret) hy hw ?_
  intro p e s m args below meth c s₁ Bd hml hv
  obtain ⟨rfl, hsz, hP, hK, hD0, hX⟩ := hv
  subst hsz
  rw [lg_entry_eq]
  exact body p e s m below meth c _ _ _ Bd.exec Bd.bytes Bd.returns (atoms_spec (ws := ws) Bd.pre) hml (findClass_of_methodNamed Bd.named) Bd.notSynchronized (fun q h => Or.inr h) rfl hK hX hP (hD0.self (sz := s.heap.size)) va_S.rf (by rw [← hlv]; exact lv_entry av hle)

theorem kMv_of {l : Launch} {y : MethodName} {ws ws' : List Cond} {rm : Room} {av : List Value} {sz : Nat} {D : va_G} {cl : List vw_C} {tys : List (ClassId × FieldType)} {w : va_W} {X : State → Prop} {mc ms : Nat} {B : (Nat → Prop) → Heap → Prop} {cc : ByteArray} {maxL : Nat} {ret : Option FieldType} {lv : List (Nat × Value)}
    (hy : plainName y.cls = true) (hw : ws = Cond.code y cc maxL ret :: ws') (hlv : lv_args 0 av = lv) (hle : (lg_sl av).length ≤ maxL)
    (body : ∀ (p : Program) (e : Env) (s : State) (m : MethodId) (below : List Frame) (meth : Method) (c : Code) (A : Nat → Prop) (QQ : Array Value → State → Outcome → State → Prop) (ls : Array Slot), p.tables.exec = Jvm.exec → c.code = cc → meth.sig.returnType = ret → (∀ z ∈ ws, z.before av.toArray s = true) → c.maxLocals = maxL → s.vm.findClass y.cls = some m.cls → meth.locks = false → (∀ q : Nat, s.heap.size ≤ q → A q) → QQ = kQv (B A) A → va_K D cl tys s → X s → va_P D cl w s.heap → va_D A w → va_S A s.heap s.heap [] → lv_has ls maxL lv →
      W p l e (headSpec ws rm).room s m av.toArray below meth c s.heap [] 0 0 (MQ below QQ av.toArray s mc ms A) (F0 m 0 ls [])) : kMv l y ws rm av sz D cl tys w X mc ms B := by
  unfold kMv
  refine Met.ofW (cc := cc) (maxL := maxL) (ret := ret) hy hw ?_
  intro p e s m args below meth c s₁ Bd hml hv
  obtain ⟨rfl, hsz, hP, hK, hD0, hX⟩ := hv
  subst hsz
  rw [lg_entry_eq]
  exact body p e s m below meth c _ _ _ Bd.exec Bd.bytes Bd.returns (atoms_spec (ws := ws) Bd.pre) hml (findClass_of_methodNamed Bd.named) Bd.notSynchronized (fun q h => Or.inr h) rfl hK hX hP (hD0.self (sz := s.heap.size)) va_S.rf (by rw [← hlv]; exact lv_entry av hle)

theorem kMr_of {l : Launch} {y : MethodName} {ws ws' : List Cond} {rm : Room} {av : List Value} {sz : Nat} {D : va_G} {cl : List vw_C} {tys : List (ClassId × FieldType)} {w : va_W} {X : State → Prop} {mc ms : Nat} {B : (Nat → Prop) → Nat → Heap → Prop} {cc : ByteArray} {maxL : Nat} {ret : Option FieldType} {lv : List (Nat × Value)}
    (hy : plainName y.cls = true) (hw : ws = Cond.code y cc maxL ret :: ws') (hlv : lv_args 0 av = lv) (hle : (lg_sl av).length ≤ maxL)
    (body : ∀ (p : Program) (e : Env) (s : State) (m : MethodId) (below : List Frame) (meth : Method) (c : Code) (A : Nat → Prop) (QQ : Array Value → State → Outcome → State → Prop) (ls : Array Slot), p.tables.exec = Jvm.exec → c.code = cc → meth.sig.returnType = ret → (∀ z ∈ ws, z.before av.toArray s = true) → c.maxLocals = maxL → s.vm.findClass y.cls = some m.cls → meth.locks = false → (∀ q : Nat, s.heap.size ≤ q → A q) → QQ = kQr (B A) A → va_K D cl tys s → X s → va_P D cl w s.heap → va_D A w → va_S A s.heap s.heap [] → lv_has ls maxL lv →
      W p l e (headSpec ws rm).room s m av.toArray below meth c s.heap [] 0 0 (MQ below QQ av.toArray s mc ms A) (F0 m 0 ls [])) : kMr l y ws rm av sz D cl tys w X mc ms B := by
  unfold kMr
  refine Met.ofW (cc := cc) (maxL := maxL) (ret := ret) hy hw ?_
  intro p e s m args below meth c s₁ Bd hml hv
  obtain ⟨rfl, hsz, hP, hK, hD0, hX⟩ := hv
  subst hsz
  rw [lg_entry_eq]
  exact body p e s m below meth c _ _ _ Bd.exec Bd.bytes Bd.returns (atoms_spec (ws := ws) Bd.pre) hml (findClass_of_methodNamed Bd.named) Bd.notSynchronized (fun q h => Or.inr h) rfl hK hX hP (hD0.self (sz := s.heap.size)) va_S.rf (by rw [← hlv]; exact lv_entry av hle)

theorem kMq_of {l : Launch} {y : MethodName} {ws ws' : List Cond} {rm : Room} {av : List Value} {sz : Nat} {D : va_G} {cl : List vw_C} {tys : List (ClassId × FieldType)} {w : va_W} {X : State → Prop} {mc ms : Nat} {B : (Nat → Prop) → Heap → Prop} {cc : ByteArray} {maxL : Nat} {ret : Option FieldType} {lv : List (Nat × Value)}
    (hy : plainName y.cls = true) (hw : ws = Cond.code y cc maxL ret :: ws') (hlv : lv_args 0 av = lv) (hle : (lg_sl av).length ≤ maxL)
    (body : ∀ (p : Program) (e : Env) (s : State) (m : MethodId) (below : List Frame) (meth : Method) (c : Code) (A : Nat → Prop) (QQ : Array Value → State → Outcome → State → Prop) (ls : Array Slot), p.tables.exec = Jvm.exec → c.code = cc → meth.sig.returnType = ret → (∀ z ∈ ws, z.before av.toArray s = true) → c.maxLocals = maxL → s.vm.findClass y.cls = some m.cls → meth.locks = false → (∀ q : Nat, s.heap.size ≤ q → A q) → QQ = kQq (B A) A → va_K D cl tys s → X s → va_P D cl w s.heap → va_D A w → va_S A s.heap s.heap [] → lv_has ls maxL lv →
      W p l e (headSpec ws rm).room s m av.toArray below meth c s.heap [] 0 0 (MQ below QQ av.toArray s mc ms A) (F0 m 0 ls [])) : kMq l y ws rm av sz D cl tys w X mc ms B := by
  unfold kMq
  refine Met.ofW (cc := cc) (maxL := maxL) (ret := ret) hy hw ?_
  intro p e s m args below meth c s₁ Bd hml hv
  obtain ⟨rfl, hsz, hP, hK, hD0, hX⟩ := hv
  subst hsz
  rw [lg_entry_eq]
  exact body p e s m below meth c _ _ _ Bd.exec Bd.bytes Bd.returns (atoms_spec (ws := ws) Bd.pre) hml (findClass_of_methodNamed Bd.named) Bd.notSynchronized (fun q h => Or.inr h) rfl hK hX hP (hD0.self (sz := s.heap.size)) va_S.rf (by rw [← hlv]; exact lv_entry av hle)

theorem kP_sub {D : va_G} {cl : List vw_C} {ws ws' : va_W} {H : Heap} (hP : va_P D cl ws H) (is : List Nat) (hs : is.map (fun i => ws[i]?) = ws'.map some) : va_P D cl ws' H := by
  intro k q hk
  have h1 : (is.map (fun i => ws[i]?))[k]? = some (some q) := by rw [hs, List.getElem?_map, hk]; rfl
  rw [List.getElem?_map] at h1
  cases hi : is[k]? with
  | none => rw [hi] at h1; cases h1
  | some i => rw [hi] at h1; exact hP i q (Option.some.inj h1)
theorem kPD_sub {D : va_G} {cl : List vw_C} {A : Nat → Prop} {ws ws' : va_W} {H : Heap} (hP : va_P D cl ws H) (hD : va_D A ws) (is : List Nat) (hn : va_nd is = true) (hs : is.map (fun i => ws[i]?) = ws'.map some) : kPD D cl A ws' H := ⟨kP_sub hP is hs, hD.sub is hn hs⟩
theorem k_inj {α : Type} : ∀ (a b : List α), a.map some = b.map some → a = b
  | [], [], _ => rfl
  | [], _ :: _, h => by cases h
  | _ :: _, [], h => by cases h
  | x :: a, y :: b, h => by
    have h' : some x :: a.map some = some y :: b.map some := h
    obtain ⟨h1, h2⟩ := List.cons.inj h'
    rw [Option.some.inj h1, k_inj a b h2]
theorem k_split {α : Type} : ∀ (xs : List (Option α)) (w1 wn : List α), xs ++ w1.map some = wn.map some → ∃ wr : List α, xs = wr.map some ∧ wr ++ w1 = wn
  | [], w1, wn, h => ⟨[], rfl, k_inj w1 wn h⟩
  | _ :: _, _, [], h => by cases h
  | x :: xs, w1, y :: wn, h => by
    have h' : x :: (xs ++ w1.map some) = some y :: wn.map some := h
    obtain ⟨h1, h2⟩ := List.cons.inj h'
    obtain ⟨wr, a, b⟩ := k_split xs w1 wn h2
    exact ⟨y :: wr, by rw [h1, a]; rfl, by rw [← b]; rfl⟩
def kOk (isC isR : List Nat) : Bool := va_nd isC && va_nd isR && isR.all (fun i => !(isC.contains i))
theorem kOk_1 {isC isR : List Nat} (h : kOk isC isR = true) : va_nd isC = true ∧ va_nd isR = true ∧ ∀ i ∈ isR, i ∉ isC := by
  unfold kOk at h
  rw [Bool.and_eq_true, Bool.and_eq_true] at h
  refine ⟨h.1.1, h.1.2, fun i hi hm => ?_⟩
  have h3 := List.all_eq_true.mp h.2 i hi
  simp [hm] at h3
/-- behind a call: what stood beside the callee's world, and that world as it is now -/
def kJ (D : va_G) (cl : List vw_C) (A0 A1 : Nat → Prop) (w0 : va_W) (isR : List Nat) (H1 : Heap) : Prop := ∀ (w1 : va_W), va_P D cl w1 H1 → va_D A1 w1 → ∀ (wn : va_W), isR.map (fun i => w0[i]?) ++ w1.map some = wn.map some → va_P D cl wn H1 ∧ va_D A0 wn
theorem kJ_of {D : va_G} {cl : List vw_C} {A0 : Nat → Prop} {w0 wc : va_W} {isC isR : List Nat} {H H1 : Heap} (hP : va_P D cl w0 H) (hD : va_D A0 w0) (hC : isC.map (fun i => w0[i]?) = wc.map some) (hok : kOk isC isR = true) (hk : ∀ q : Nat, q < H.size → ¬ va_A wc H.size q → H1[q]? = H[q]?) (hF : ∀ q, va_A wc H.size q → A0 q) : kJ D cl A0 (va_A wc H.size) w0 isR H1 := by
  intro w1 hP1 hD1 wn he
  obtain ⟨wr, hr1, hr2⟩ := k_split _ w1 wn he
  obtain ⟨-, h2, h3⟩ := kOk_1 hok
  subst hr2
  exact va_join hP hD isC isR hC hr1 h2 h3 hk hF hP1 hD1
def kCal (y : MethodName) (bytes : ByteArray) (maxL : Nat) (ret : Option FieldType) (ws : List Cond) (n : Nat) : Prop := (∃ ws', ws = Cond.code y bytes maxL ret :: ws') ∧ y.cls ≠ "java/lang/invoke/MethodHandle" ∧ y.cls ≠ "java/lang/invoke/VarHandle" ∧ (parseMethodDescriptor y.desc).map (fun d => d.parameters.length) = some n
theorem k_cf {p : Program} {m : MethodId} {c : Code} {cc : ByteArray} {nL : Nat} {s : State} {args : Array Value} {Ts : List Cond} {own : String} (hx : p.tables.exec = Jvm.exec) (hb : c.code = cc) (hml : c.maxLocals = nL) (hown : s.vm.findClass own = some m.cls) (hts : ∀ w ∈ Ts, w.before args s = true) : CallFix p m c cc nL s args Ts own := ⟨hx, hb, hml, hown, hts⟩
section KC
variable {p : Program} {l : Launch} {e : Env} {R : Room} {s : State} {m : MethodId} {args : Array Value} {below : List Frame} {meth : Method} {c : Code} {H : Heap} {locs : List Loc} {cells slots : Nat} {Q : State → Prop}
variable {pc : Nat} {ls : Array Slot} {rest st0 As : List Value} {A0 : Nat → Prop} {H0 : Heap} {mc ms n index nL maxL : Nat} {cc bytes : ByteArray} {Ts ws : List Cond} {own C host : String} {y : MethodName} {ret : Option FieldType} {rm : Room} {D : va_G} {cl : List vw_C} {tys : List (ClassId × FieldType)} {w0 wc : va_W} {X : State → Prop} {lv : List (Nat × Value)} {b : Nat}

theorem kV_i {B : (Nat → Prop) → Int32 → Heap → Prop} (S : CallFix p m c cc nL s args Ts own) (hM : kMi l y ws rm (.ref b :: As) H.size D cl tys wc X mc ms B) (kc : kCal y bytes maxL ret ws n) (hG : GoodIn Ts (wsV own index C y ws)) (hyC : y.cls = C) (hrc : rm.cells = mc) (hrs : rm.slots = ms) (hR : rm.frames + 1 ≤ R.frames ∧ 8 + (maxL + 11) + rm.locals ≤ R.locals) (hX : kX s X) (hK : va_K D cl tys s) (hP : va_P D cl w0 H) (hD : va_D A0 w0) (hS : va_S A0 H0 H locs) (hA : ∀ q, H0.size ≤ q → A0 q) (isC isR : List Nat) (hC : isC.map (fun i => w0[i]?) = wc.map some) (hok : kOk isC isR = true) {q0 ci : Nat} {fs : List Value} {T : u_T} {N : Nat} (hcl : cl[ci]? = some (C, T, N)) (he : wc[q0]? = some (b, .inr (ci, fs))) (hn : As.length = n) (hl : lv_has ls nL lv) (hst : st0 = As.reverse ++ .ref b :: rest) (hW : (rest.map fun v => v.category).sum ≤ 8) (hdg : decode cc pc = .ok (.invokevirtual index, 3)) (hf : cells + mc ≤ R.cells ∧ slots + ms ≤ R.slots)
    (kk : ∀ (r : Int32) (H1 : Heap) (locs1 : List Loc), B (va_A wc H.size) r H1 → kJ D cl A0 (va_A wc H.size) w0 isR H1 → va_S A0 H0 H1 locs1 → W p l e R s m args below meth c H1 locs1 (cells + mc) (slots + ms) Q (F0 m (pc + 3) ls (.int r :: rest))) : W p l e R s m args below meth c H locs cells slots Q (F0 m pc ls st0) := by
  have hPD : kPD D cl A0 wc H := kPD_sub hP hD isC (kOk_1 hok).1 hC
  have hFc := va_free hD hS hA isC hC
  have hM' : Met l y ws rm (va_Pc (.ref b :: As) (kP H.size D cl tys wc X)) (kQi (B (va_A wc H.size)) (va_A wc H.size)) mc ms (va_A wc H.size) := hM
  refine va_calli (A1 := va_A wc H.size) (va_runV (As := As) (rest := rest) (g := F0 m pc ls st0) S hM' (by obtain ⟨⟨ws', hw⟩, hd⟩ := kc; exact cwV n S.2.2.2.2 hG hw hrc hrs ⟨hyC, hd⟩ hR) ⟨kP.blind hX.2, va_recv hK hPD.1 hcl he, fun U hU hW => ⟨rfl, by rw [hU], by rw [hU]; exact hPD.1, va_K.moved hW.alike hK, hPD.2.weaken (fun _ _ _ _ => trivial), hX.1 U hW⟩⟩ rfl hn hl.1 hst (lv_room hW) hdg hf) hS (fun q _ h => hFc q h) hFc (fun r u t H1 locs1 ht hvm hw hB hz1 hk1 hS1 => ?_)
  subst hw
  exact kk r H1 locs1 (by rw [← ht]; exact hB) (kJ_of hP hD hC hok hk1 hFc) hS1

theorem kV_v {B : (Nat → Prop) → Heap → Prop} (S : CallFix p m c cc nL s args Ts own) (hM : kMv l y ws rm (.ref b :: As) H.size D cl tys wc X mc ms B) (kc : kCal y bytes maxL ret ws n) (hG : GoodIn Ts (wsV own index C y ws)) (hyC : y.cls = C) (hrc : rm.cells = mc) (hrs : rm.slots = ms) (hR : rm.frames + 1 ≤ R.frames ∧ 8 + (maxL + 11) + rm.locals ≤ R.locals) (hX : kX s X) (hK : va_K D cl tys s) (hP : va_P D cl w0 H) (hD : va_D A0 w0) (hS : va_S A0 H0 H locs) (hA : ∀ q, H0.size ≤ q → A0 q) (isC isR : List Nat) (hC : isC.map (fun i => w0[i]?) = wc.map some) (hok : kOk isC isR = true) {q0 ci : Nat} {fs : List Value} {T : u_T} {N : Nat} (hcl : cl[ci]? = some (C, T, N)) (he : wc[q0]? = some (b, .inr (ci, fs))) (hn : As.length = n) (hl : lv_has ls nL lv) (hst : st0 = As.reverse ++ .ref b :: rest) (hW : (rest.map fun v => v.category).sum ≤ 8) (hdg : decode cc pc = .ok (.invokevirtual index, 3)) (hf : cells + mc ≤ R.cells ∧ slots + ms ≤ R.slots)
    (kk : ∀ (H1 : Heap) (locs1 : List Loc), B (va_A wc H.size) H1 → kJ D cl A0 (va_A wc H.size) w0 isR H1 → va_S A0 H0 H1 locs1 → W p l e R s m args below meth c H1 locs1 (cells + mc) (slots + ms) Q (F0 m (pc + 3) ls rest)) : W p l e R s m args below meth c H locs cells slots Q (F0 m pc ls st0) := by
  have hPD : kPD D cl A0 wc H := kPD_sub hP hD isC (kOk_1 hok).1 hC
  have hFc := va_free hD hS hA isC hC
  have hM' : Met l y ws rm (va_Pc (.ref b :: As) (kP H.size D cl tys wc X)) (kQv (B (va_A wc H.size)) (va_A wc H.size)) mc ms (va_A wc H.size) := hM
  refine va_callv (A1 := va_A wc H.size) (va_runV (As := As) (rest := rest) (g := F0 m pc ls st0) S hM' (by obtain ⟨⟨ws', hw⟩, hd⟩ := kc; exact cwV n S.2.2.2.2 hG hw hrc hrs ⟨hyC, hd⟩ hR) ⟨kP.blind hX.2, va_recv hK hPD.1 hcl he, fun U hU hW => ⟨rfl, by rw [hU], by rw [hU]; exact hPD.1, va_K.moved hW.alike hK, hPD.2.weaken (fun _ _ _ _ => trivial), hX.1 U hW⟩⟩ rfl hn hl.1 hst (lv_room hW) hdg hf) hS (fun q _ h => hFc q h) hFc (fun u t H1 locs1 ht hvm hw hB hz1 hk1 hS1 => ?_)
  exact kk H1 locs1 (by rw [← ht]; exact hB) (kJ_of hP hD hC hok hk1 hFc) hS1

theorem kV_r {B : (Nat → Prop) → Nat → Heap → Prop} (S : CallFix p m c cc nL s args Ts own) (hM : kMr l y ws rm (.ref b :: As) H.size D cl tys wc X mc ms B) (kc : kCal y bytes maxL ret ws n) (hG : GoodIn Ts (wsV own index C y ws)) (hyC : y.cls = C) (hrc : rm.cells = mc) (hrs : rm.slots = ms) (hR : rm.frames + 1 ≤ R.frames ∧ 8 + (maxL + 11) + rm.locals ≤ R.locals) (hX : kX s X) (hK : va_K D cl tys s) (hP : va_P D cl w0 H) (hD : va_D A0 w0) (hS : va_S A0 H0 H locs) (hA : ∀ q, H0.size ≤ q → A0 q) (isC isR : List Nat) (hC : isC.map (fun i => w0[i]?) = wc.map some) (hok : kOk isC isR = true) {q0 ci : Nat} {fs : List Value} {T : u_T} {N : Nat} (hcl : cl[ci]? = some (C, T, N)) (he : wc[q0]? = some (b, .inr (ci, fs))) (hn : As.length = n) (hl : lv_has ls nL lv) (hst : st0 = As.reverse ++ .ref b :: rest) (hW : (rest.map fun v => v.category).sum ≤ 8) (hdg : decode cc pc = .ok (.invokevirtual index, 3)) (hf : cells + mc ≤ R.cells ∧ slots + ms ≤ R.slots)
    (kk : ∀ (ra : Nat) (H1 : Heap) (locs1 : List Loc), B (va_A wc H.size) ra H1 → kJ D cl A0 (va_A wc H.size) w0 isR H1 → va_S A0 H0 H1 locs1 → W p l e R s m args below meth c H1 locs1 (cells + mc) (slots + ms) Q (F0 m (pc + 3) ls (.ref ra :: rest))) : W p l e R s m args below meth c H locs cells slots Q (F0 m pc ls st0) := by
  have hPD : kPD D cl A0 wc H := kPD_sub hP hD isC (kOk_1 hok).1 hC
  have hFc := va_free hD hS hA isC hC
  have hM' : Met l y ws rm (va_Pc (.ref b :: As) (kP H.size D cl tys wc X)) (kQr (B (va_A wc H.size)) (va_A wc H.size)) mc ms (va_A wc H.size) := hM
  refine va_callr (A1 := va_A wc H.size) (va_runV (As := As) (rest := rest) (g := F0 m pc ls st0) S hM' (by obtain ⟨⟨ws', hw⟩, hd⟩ := kc; exact cwV n S.2.2.2.2 hG hw hrc hrs ⟨hyC, hd⟩ hR) ⟨kP.blind hX.2, va_recv hK hPD.1 hcl he, fun U hU hW => ⟨rfl, by rw [hU], by rw [hU]; exact hPD.1, va_K.moved hW.alike hK, hPD.2.weaken (fun _ _ _ _ => trivial), hX.1 U hW⟩⟩ rfl hn hl.1 hst (lv_room hW) hdg hf) hS (fun q _ h => hFc q h) hFc (fun u ra t H1 locs1 ht hvm hw hB hz1 hk1 hS1 => ?_)
  exact kk ra H1 locs1 (by rw [← ht]; exact hB) (kJ_of hP hD hC hok hk1 hFc) hS1

theorem kV_q {B : (Nat → Prop) → Heap → Prop} (S : CallFix p m c cc nL s args Ts own) (hM : kMq l y ws rm (.ref b :: As) H.size D cl tys wc X mc ms B) (kc : kCal y bytes maxL ret ws n) (hG : GoodIn Ts (wsV own index C y ws)) (hyC : y.cls = C) (hrc : rm.cells = mc) (hrs : rm.slots = ms) (hR : rm.frames + 1 ≤ R.frames ∧ 8 + (maxL + 11) + rm.locals ≤ R.locals) (hX : kX s X) (hK : va_K D cl tys s) (hP : va_P D cl w0 H) (hD : va_D A0 w0) (hS : va_S A0 H0 H locs) (hA : ∀ q, H0.size ≤ q → A0 q) (isC isR : List Nat) (hC : isC.map (fun i => w0[i]?) = wc.map some) (hok : kOk isC isR = true) {q0 ci : Nat} {fs : List Value} {T : u_T} {N : Nat} (hcl : cl[ci]? = some (C, T, N)) (he : wc[q0]? = some (b, .inr (ci, fs))) (hn : As.length = n) (hl : lv_has ls nL lv) (hst : st0 = As.reverse ++ .ref b :: rest) (hW : (rest.map fun v => v.category).sum ≤ 8) (hdg : decode cc pc = .ok (.invokevirtual index, 3)) (hf : cells + mc ≤ R.cells ∧ slots + ms ≤ R.slots)
    (kk : ∀ (H1 : Heap) (locs1 : List Loc), B (va_A wc H.size) H1 → kJ D cl A0 (va_A wc H.size) w0 isR H1 → va_S A0 H0 H1 locs1 → W p l e R s m args below meth c H1 locs1 (cells + mc) (slots + ms) Q (F0 m (pc + 3) ls (.null :: rest))) : W p l e R s m args below meth c H locs cells slots Q (F0 m pc ls st0) := by
  have hPD : kPD D cl A0 wc H := kPD_sub hP hD isC (kOk_1 hok).1 hC
  have hFc := va_free hD hS hA isC hC
  have hM' : Met l y ws rm (va_Pc (.ref b :: As) (kP H.size D cl tys wc X)) (kQq (B (va_A wc H.size)) (va_A wc H.size)) mc ms (va_A wc H.size) := hM
  refine va_callq (A1 := va_A wc H.size) (va_runV (As := As) (rest := rest) (g := F0 m pc ls st0) S hM' (by obtain ⟨⟨ws', hw⟩, hd⟩ := kc; exact cwV n S.2.2.2.2 hG hw hrc hrs ⟨hyC, hd⟩ hR) ⟨kP.blind hX.2, va_recv hK hPD.1 hcl he, fun U hU hW => ⟨rfl, by rw [hU], by rw [hU]; exact hPD.1, va_K.moved hW.alike hK, hPD.2.weaken (fun _ _ _ _ => trivial), hX.1 U hW⟩⟩ rfl hn hl.1 hst (lv_room hW) hdg hf) hS (fun q _ h => hFc q h) hFc (fun r u t H1 locs1 ht hvm hw hB hz1 hk1 hS1 => ?_)
  obtain rfl := hw
  exact kk H1 locs1 (by rw [← ht]; exact hB) (kJ_of hP hD hC hok hk1 hFc) hS1

theorem kS_i {B : (Nat → Prop) → Int32 → Heap → Prop} (S : CallFix p m c cc nL s args Ts own) (hM : kMi l y ws rm As H.size D cl tys wc X mc ms B) (kc : kCal y bytes maxL ret ws n) (hG : GoodIn Ts (va_wsS own index y ws)) (hrc : rm.cells = mc) (hrs : rm.slots = ms) (hR : rm.frames + 1 ≤ R.frames ∧ 8 + (maxL + 11) + rm.locals ≤ R.locals) (hX : kX s X) (hK : va_K D cl tys s) (hP : va_P D cl w0 H) (hD : va_D A0 w0) (hS : va_S A0 H0 H locs) (hA : ∀ q, H0.size ≤ q → A0 q) (isC isR : List Nat) (hC : isC.map (fun i => w0[i]?) = wc.map some) (hok : kOk isC isR = true) (hn : As.length = n) (hl : lv_has ls nL lv) (hst : st0 = As.reverse ++ rest) (hW : (rest.map fun v => v.category).sum ≤ 8) (hdg : decode cc pc = .ok (.invokestatic index, 3)) (hf : cells + mc ≤ R.cells ∧ slots + ms ≤ R.slots)
    (kk : ∀ (r : Int32) (H1 : Heap) (locs1 : List Loc), B (va_A wc H.size) r H1 → kJ D cl A0 (va_A wc H.size) w0 isR H1 → va_S A0 H0 H1 locs1 → W p l e R s m args below meth c H1 locs1 (cells + mc) (slots + ms) Q (F0 m (pc + 3) ls (.int r :: rest))) : W p l e R s m args below meth c H locs cells slots Q (F0 m pc ls st0) := by
  have hPD : kPD D cl A0 wc H := kPD_sub hP hD isC (kOk_1 hok).1 hC
  have hFc := va_free hD hS hA isC hC
  have hM' : Met l y ws rm (va_Pc As (kP H.size D cl tys wc X)) (kQi (B (va_A wc H.size)) (va_A wc H.size)) mc ms (va_A wc H.size) := hM
  refine va_calli (A1 := va_A wc H.size) (va_runS (As := As) (rest := rest) (g := F0 m pc ls st0) S hM' (by obtain ⟨⟨ws', hw⟩, hd⟩ := kc; exact va_cwS n S.2.2.2.2 hG hw hrc hrs hd hR) ⟨kP.blind hX.2, fun U hU hW => ⟨rfl, by rw [hU], by rw [hU]; exact hPD.1, va_K.moved hW.alike hK, hPD.2.weaken (fun _ _ _ _ => trivial), hX.1 U hW⟩⟩ rfl hn hl.1 hst (lv_room hW) hdg hf) hS (fun q _ h => hFc q h) hFc (fun r u t H1 locs1 ht hvm hw hB hz1 hk1 hS1 => ?_)
  subst hw
  exact kk r H1 locs1 (by rw [← ht]; exact hB) (kJ_of hP hD hC hok hk1 hFc) hS1

theorem kS_v {B : (Nat → Prop) → Heap → Prop} (S : CallFix p m c cc nL s args Ts own) (hM : kMv l y ws rm As H.size D cl tys wc X mc ms B) (kc : kCal y bytes maxL ret ws n) (hG : GoodIn Ts (va_wsS own index y ws)) (hrc : rm.cells = mc) (hrs : rm.slots = ms) (hR : rm.frames + 1 ≤ R.frames ∧ 8 + (maxL + 11) + rm.locals ≤ R.locals) (hX : kX s X) (hK : va_K D cl tys s) (hP : va_P D cl w0 H) (hD : va_D A0 w0) (hS : va_S A0 H0 H locs) (hA : ∀ q, H0.size ≤ q → A0 q) (isC isR : List Nat) (hC : isC.map (fun i => w0[i]?) = wc.map some) (hok : kOk isC isR = true) (hn : As.length = n) (hl : lv_has ls nL lv) (hst : st0 = As.reverse ++ rest) (hW : (rest.map fun v => v.category).sum ≤ 8) (hdg : decode cc pc = .ok (.invokestatic index, 3)) (hf : cells + mc ≤ R.cells ∧ slots + ms ≤ R.slots)
    (kk : ∀ (H1 : Heap) (locs1 : List Loc), B (va_A wc H.size) H1 → kJ D cl A0 (va_A wc H.size) w0 isR H1 → va_S A0 H0 H1 locs1 → W p l e R s m args below meth c H1 locs1 (cells + mc) (slots + ms) Q (F0 m (pc + 3) ls rest)) : W p l e R s m args below meth c H locs cells slots Q (F0 m pc ls st0) := by
  have hPD : kPD D cl A0 wc H := kPD_sub hP hD isC (kOk_1 hok).1 hC
  have hFc := va_free hD hS hA isC hC
  have hM' : Met l y ws rm (va_Pc As (kP H.size D cl tys wc X)) (kQv (B (va_A wc H.size)) (va_A wc H.size)) mc ms (va_A wc H.size) := hM
  refine va_callv (A1 := va_A wc H.size) (va_runS (As := As) (rest := rest) (g := F0 m pc ls st0) S hM' (by obtain ⟨⟨ws', hw⟩, hd⟩ := kc; exact va_cwS n S.2.2.2.2 hG hw hrc hrs hd hR) ⟨kP.blind hX.2, fun U hU hW => ⟨rfl, by rw [hU], by rw [hU]; exact hPD.1, va_K.moved hW.alike hK, hPD.2.weaken (fun _ _ _ _ => trivial), hX.1 U hW⟩⟩ rfl hn hl.1 hst (lv_room hW) hdg hf) hS (fun q _ h => hFc q h) hFc (fun u t H1 locs1 ht hvm hw hB hz1 hk1 hS1 => ?_)
  exact kk H1 locs1 (by rw [← ht]; exact hB) (kJ_of hP hD hC hok hk1 hFc) hS1

theorem kI_v {B : (Nat → Prop) → Heap → Prop} (S : CallFix p m c cc nL s args Ts own) (hM : kMv l y ws rm (.ref b :: As) H.size D cl tys wc X mc ms B) (cw : CallB R s args own index y bytes maxL none ws rm mc ms n ∧ y.name = "<init>" ∧ (Cond.instanceMethod y).before args s = true) (hX : kX s X) (hK : va_K D cl tys s) (hP : va_P D cl w0 H) (hD : va_D A0 w0) (hS : va_S A0 H0 H locs) (hA : ∀ q, H0.size ≤ q → A0 q) (isC isR : List Nat) (hC : isC.map (fun i => w0[i]?) = wc.map some) (hok : kOk isC isR = true) (hn : As.length = n) (hl : lv_has ls nL lv) (hst : st0 = As.reverse ++ .ref b :: rest) (hW : (rest.map fun v => v.category).sum ≤ 8) (hdg : decode cc pc = .ok (.invokespecial index, 3)) (hf : cells + mc ≤ R.cells ∧ slots + ms ≤ R.slots)
    (kk : ∀ (H1 : Heap) (locs1 : List Loc), B (va_A wc H.size) H1 → kJ D cl A0 (va_A wc H.size) w0 isR H1 → va_S A0 H0 H1 locs1 → W p l e R s m args below meth c H1 locs1 (cells + mc) (slots + ms) Q (F0 m (pc + 3) ls rest)) : W p l e R s m args below meth c H locs cells slots Q (F0 m pc ls st0) := by
  have hPD : kPD D cl A0 wc H := kPD_sub hP hD isC (kOk_1 hok).1 hC
  have hFc := va_free hD hS hA isC hC
  have hM' : Met l y ws rm (va_Pc (.ref b :: As) (kP H.size D cl tys wc X)) (kQv (B (va_A wc H.size)) (va_A wc H.size)) mc ms (va_A wc H.size) := hM
  refine va_callv (A1 := va_A wc H.size) (va_runI (As := As) (rest := rest) (g := F0 m pc ls st0) S hM' cw ⟨kP.blind hX.2, fun U hU hW => ⟨rfl, by rw [hU], by rw [hU]; exact hPD.1, va_K.moved hW.alike hK, hPD.2.weaken (fun _ _ _ _ => trivial), hX.1 U hW⟩⟩ rfl hn hl.1 hst (lv_room hW) hdg hf) hS (fun q _ h => hFc q h) hFc (fun u t H1 locs1 ht hvm hw hB hz1 hk1 hS1 => ?_)
  exact kk H1 locs1 (by rw [← ht]; exact hB) (kJ_of hP hD hC hok hk1 hFc) hS1

theorem kSN_i {B : (Nat → Prop) → Int32 → Heap → Prop} (S : CallFix p m c cc nL s args Ts own) (hM : kMi l y ws rm As H.size D cl tys wc X mc ms B) (cw : va_CN R s args own index y host bytes maxL ret ws rm mc ms n ∧ (Cond.static y).before args s = true ∧ True) (hX : kX s X) (hK : va_K D cl tys s) (hP : va_P D cl w0 H) (hD : va_D A0 w0) (hS : va_S A0 H0 H locs) (hA : ∀ q, H0.size ≤ q → A0 q) (isC isR : List Nat) (hC : isC.map (fun i => w0[i]?) = wc.map some) (hok : kOk isC isR = true) (hn : As.length = n) (hl : lv_has ls nL lv) (hst : st0 = As.reverse ++ rest) (hW : (rest.map fun v => v.category).sum ≤ 8) (hdg : decode cc pc = .ok (.invokestatic index, 3)) (hf : cells + mc ≤ R.cells ∧ slots + ms ≤ R.slots)
    (kk : ∀ (r : Int32) (H1 : Heap) (locs1 : List Loc), B (va_A wc H.size) r H1 → kJ D cl A0 (va_A wc H.size) w0 isR H1 → va_S A0 H0 H1 locs1 → W p l e R s m args below meth c H1 locs1 (cells + mc) (slots + ms) Q (F0 m (pc + 3) ls (.int r :: rest))) : W p l e R s m args below meth c H locs cells slots Q (F0 m pc ls st0) := by
  have hPD : kPD D cl A0 wc H := kPD_sub hP hD isC (kOk_1 hok).1 hC
  have hFc := va_free hD hS hA isC hC
  have hM' : Met l y ws rm (va_Pc As (kP H.size D cl tys wc X)) (kQi (B (va_A wc H.size)) (va_A wc H.size)) mc ms (va_A wc H.size) := hM
  refine va_calli (A1 := va_A wc H.size) (va_runSN (As := As) (rest := rest) (g := F0 m pc ls st0) S hM' cw ⟨kP.blind hX.2, fun U hU hW => ⟨rfl, by rw [hU], by rw [hU]; exact hPD.1, va_K.moved hW.alike hK, hPD.2.weaken (fun _ _ _ _ => trivial), hX.1 U hW⟩⟩ rfl hn hl.1 hst (lv_room hW) hdg hf) hS (fun q _ h => hFc q h) hFc (fun r u t H1 locs1 ht hvm hw hB hz1 hk1 hS1 => ?_)
  subst hw
  exact kk r H1 locs1 (by rw [← ht]; exact hB) (kJ_of hP hD hC hok hk1 hFc) hS1

theorem kIN_v {B : (Nat → Prop) → Heap → Prop} (S : CallFix p m c cc nL s args Ts own) (hM : kMv l y ws rm (.ref b :: As) H.size D cl tys wc X mc ms B) (cw : va_CN R s args own index y host bytes maxL none ws rm mc ms n ∧ y.name = "<init>" ∧ (Cond.instanceMethod y).before args s = true) (hX : kX s X) (hK : va_K D cl tys s) (hP : va_P D cl w0 H) (hD : va_D A0 w0) (hS : va_S A0 H0 H locs) (hA : ∀ q, H0.size ≤ q → A0 q) (isC isR : List Nat) (hC : isC.map (fun i => w0[i]?) = wc.map some) (hok : kOk isC isR = true) (hn : As.length = n) (hl : lv_has ls nL lv) (hst : st0 = As.reverse ++ .ref b :: rest) (hW : (rest.map fun v => v.category).sum ≤ 8) (hdg : decode cc pc = .ok (.invokespecial index, 3)) (hf : cells + mc ≤ R.cells ∧ slots + ms ≤ R.slots)
    (kk : ∀ (H1 : Heap) (locs1 : List Loc), B (va_A wc H.size) H1 → kJ D cl A0 (va_A wc H.size) w0 isR H1 → va_S A0 H0 H1 locs1 → W p l e R s m args below meth c H1 locs1 (cells + mc) (slots + ms) Q (F0 m (pc + 3) ls rest)) : W p l e R s m args below meth c H locs cells slots Q (F0 m pc ls st0) := by
  have hPD : kPD D cl A0 wc H := kPD_sub hP hD isC (kOk_1 hok).1 hC
  have hFc := va_free hD hS hA isC hC
  have hM' : Met l y ws rm (va_Pc (.ref b :: As) (kP H.size D cl tys wc X)) (kQv (B (va_A wc H.size)) (va_A wc H.size)) mc ms (va_A wc H.size) := hM
  refine va_callv (A1 := va_A wc H.size) (va_runIN (As := As) (rest := rest) (g := F0 m pc ls st0) S hM' cw ⟨kP.blind hX.2, fun U hU hW => ⟨rfl, by rw [hU], by rw [hU]; exact hPD.1, va_K.moved hW.alike hK, hPD.2.weaken (fun _ _ _ _ => trivial), hX.1 U hW⟩⟩ rfl hn hl.1 hst (lv_room hW) hdg hf) hS (fun q _ h => hFc q h) hFc (fun u t H1 locs1 ht hvm hw hB hz1 hk1 hS1 => ?_)
  exact kk H1 locs1 (by rw [← ht]; exact hB) (kJ_of hP hD hC hok hk1 hFc) hS1

end KC
section KL
variable {p : Program} {l : Launch} {e : Env} {R : Room} {s : State} {m : MethodId} {args : Array Value} {below : List Frame} {meth : Method} {c : Code} {H : Heap} {locs : List Loc} {cells slots : Nat} {Q : State → Prop}
variable {cc : ByteArray} {pc : Nat} {ls : Array Slot} {rest : List Value} {D : va_G} {cl : List vw_C} {A : Nat → Prop} {a : Nat} {tys : List (ClassId × FieldType)} {ws : va_W} {H0 : Heap} {QQ : Array Value → State → Outcome → State → Prop}
theorem kl_i {B : Int32 → Heap → Prop} {v : Int32} (hQ : QQ = kQi B A) (hx : p.tables.exec = Jvm.exec) (hb : c.code = cc) (hr : meth.sig.returnType = some .int) (hlocks : meth.locks = false) (hS : va_S A s.heap H locs) (hdg : decode cc pc = .ok (.ireturn, 1)) (hB : B v H) : W p l e R s m args below meth c H locs cells slots (MQ below QQ args s cells slots A) (F0 m pc ls [.int v]) := by
  subst hQ
  exact W.iret (v := v) hx hb hr (fun t ht hW => ⟨⟨v, v, rfl, rfl, by show B v t.heap; rw [ht]; exact hB⟩, hS.F ht⟩) hS.2.2 hdg hlocks
theorem kl_z {B : Int32 → Heap → Prop} {v : Int32} (hQ : QQ = kQi B A) (hx : p.tables.exec = Jvm.exec) (hb : c.code = cc) (hr : meth.sig.returnType = some .boolean) (hlocks : meth.locks = false) (hS : va_S A s.heap H locs) (hdg : decode cc pc = .ok (.ireturn, 1)) (hn : narrow .boolean (.int v) = .int v) (hB : B v H) : W p l e R s m args below meth c H locs cells slots (MQ below QQ args s cells slots A) (F0 m pc ls [.int v]) := by
  subst hQ
  exact W.zret (v := v) (ty := .boolean) hx hb hr hn (fun t ht hW => ⟨⟨v, v, rfl, rfl, by show B v t.heap; rw [ht]; exact hB⟩, hS.F ht⟩) hS.2.2 hdg hlocks
theorem kl_v {B : Heap → Prop} (hQ : QQ = kQv B A) (hx : p.tables.exec = Jvm.exec) (hb : c.code = cc) (hr : meth.sig.returnType = none) (hlocks : meth.locks = false) (hS : va_S A s.heap H locs) (hdg : decode cc pc = .ok (.return_, 1)) (hB : B H) : W p l e R s m args below meth c H locs cells slots (MQ below QQ args s cells slots A) (F0 m pc ls []) := by
  subst hQ
  exact W.vret hx hb hr (fun t ht hW => ⟨⟨(), rfl, trivial, by show B t.heap; rw [ht]; exact hB⟩, hS.F ht⟩) hS.2.2 hdg hlocks
theorem kl_r {B : Nat → Heap → Prop} {v : Nat} {rt : FieldType} (hQ : QQ = kQr B A) (hx : p.tables.exec = Jvm.exec) (hb : c.code = cc) (hr : meth.sig.returnType = some rt) (hrt : (∃ n, rt = .object n) ∨ ∃ t, rt = .array t) (hlocks : meth.locks = false) (hS : va_S A s.heap H locs) (hdg : decode cc pc = .ok (.areturn, 1)) (hB : B v H) : W p l e R s m args below meth c H locs cells slots (MQ below QQ args s cells slots A) (F0 m pc ls [.ref v]) := by
  subst hQ
  exact W.aret (v := .ref v) hx hb hr hrt (Or.inr ⟨_, rfl⟩) (fun t ht hW => ⟨⟨(), v, rfl, trivial, by show B v t.heap; rw [ht]; exact hB⟩, hS.F ht⟩) hS.2.2 hdg hlocks
theorem kl_q {B : Heap → Prop} {rt : FieldType} (hQ : QQ = kQq B A) (hx : p.tables.exec = Jvm.exec) (hb : c.code = cc) (hr : meth.sig.returnType = some rt) (hrt : (∃ n, rt = .object n) ∨ ∃ t, rt = .array t) (hlocks : meth.locks = false) (hS : va_S A s.heap H locs) (hdg : decode cc pc = .ok (.areturn, 1)) (hB : B H) : W p l e R s m args below meth c H locs cells slots (MQ below QQ args s cells slots A) (F0 m pc ls [.null]) := by
  subst hQ
  exact W.aret (v := .null) hx hb hr hrt (Or.inl rfl) (fun t ht hW => ⟨⟨none, (), rfl, rfl, by show B t.heap; rw [ht]; exact hB⟩, hS.F ht⟩) hS.2.2 hdg hlocks

/-- a store: the world behind it told by name -/
theorem kW {w wn : va_W} {P : Heap → List Loc → Prop} (hwn : w = wn) (kk : ∀ (H1 : Heap) (locs1 : List Loc), va_P D cl wn H1 → va_D A wn → va_S A H0 H1 locs1 → P H1 locs1) : ∀ (H1 : Heap) (locs1 : List Loc), va_P D cl w H1 → va_D A w → va_S A H0 H1 locs1 → P H1 locs1 := by
  subst hwn
  exact kk
theorem kWf {w : va_W} {g u : Nat → Int32} {F : (Nat → Int32) → va_W} {P : Heap → List Loc → Prop} (eg : g = u) (hwn : w = F u) (kk : ∀ (H1 : Heap) (locs1 : List Loc), va_P D cl (F g) H1 → va_D A (F g) → va_S A H0 H1 locs1 → P H1 locs1) : ∀ (H1 : Heap) (locs1 : List Loc), va_P D cl w H1 → va_D A w → va_S A H0 H1 locs1 → P H1 locs1 := by
  subst hwn
  subst eg
  exact kk

end KL
/-! what no omega of a proof needs is hidden from it -/
def HID (p : Prop) : Prop := p
theorem hid {p : Prop} (h : p) : HID p := h
/-! numbers between two integers, without omega -/
theorem v_addR {a b x : Int32} {l1 h1 l2 h2 : Int} (h : x = a + b) (ha : l1 ≤ a.toInt ∧ a.toInt ≤ h1) (hb : l2 ≤ b.toInt ∧ b.toInt ≤ h2) (hl : -2147483648 ≤ l1 + l2) (hh : h1 + h2 < 2147483648) : x.toInt = a.toInt + b.toInt := v_add h (by omega) (by omega)
theorem v_subR {a b x : Int32} {l1 h1 l2 h2 : Int} (h : x = a - b) (ha : l1 ≤ a.toInt ∧ a.toInt ≤ h1) (hb : l2 ≤ b.toInt ∧ b.toInt ≤ h2) (hl : -2147483648 ≤ l1 - h2) (hh : h1 - l2 < 2147483648) : x.toInt = a.toInt - b.toInt := v_sub h (by omega) (by omega)
theorem v_inR {x : Int32} {n : Nat} {l1 h1 : Int} (h : l1 ≤ x.toInt ∧ x.toInt ≤ h1) (hl : 0 ≤ l1) (hh : h1 < n) : vp_in x n := v_in (by omega)
theorem v_sumR {z a b l1 h1 l2 h2 l h : Int} (e : z = a + b) (ha : l1 ≤ a ∧ a ≤ h1) (hb : l2 ≤ b ∧ b ≤ h2) (hl : l ≤ l1 + l2) (hh : h1 + h2 ≤ h) : l ≤ z ∧ z ≤ h := by omega
theorem v_difR {z a b l1 h1 l2 h2 l h : Int} (e : z = a - b) (ha : l1 ≤ a ∧ a ≤ h1) (hb : l2 ≤ b ∧ b ≤ h2) (hl : l ≤ l1 - h2) (hh : h1 - l2 ≤ h) : l ≤ z ∧ z ≤ h := by omega
theorem v_rr {z l1 h1 l h : Int} (ha : l1 ≤ z ∧ z ≤ h1) (hl : l ≤ l1) (hh : h1 ≤ h) : l ≤ z ∧ z ≤ h := by omega
/-! room and places in the law -/
theorem kfit1 {a b nc c : Nat} (hn : nc ≤ 511) (h : b + 511 + c ≤ a) : b + nc + c ≤ a := by omega
theorem kfit2 {a b nc c d : Nat} (hn : nc ≤ 511) (h : b + 511 + c + d ≤ a) : b + nc + c + d ≤ a := by omega
theorem ksix1 {a b nc c : Nat} (hn : nc ≤ 511) (h : b + 3066 + c ≤ a) : b + 6 * nc + c ≤ a := by omega
theorem ksix2 {a b nc c d : Nat} (hn : nc ≤ 511) (h : b + 3066 + c + d ≤ a) : b + 6 * nc + c + d ≤ a := by omega
theorem v_sld5 {z i k L : Int} (e : z = i + k) (hi : 0 ≤ i ∧ i + 5 < L) (hk : 0 ≤ k ∧ k ≤ 5) : 0 ≤ z ∧ z < L := by omega
/-! rows of decoding, many at once -/
def kDec (cc : ByteArray) (t : List (Nat × Instr × Nat)) : Bool := t.all (fun q => decide (decode cc q.1 = .ok q.2))
theorem kDec_at {cc : ByteArray} {t : List (Nat × Instr × Nat)} (h : kDec cc t = true) (k : Nat) {pc : Nat} {r : Instr × Nat} (hk : t[k]? = some (pc, r)) : decode cc pc = .ok r := by
  have h1 := List.all_eq_true.mp h (pc, r) (List.mem_of_getElem? hk)
  exact of_decide_eq_true h1
/-! words of lists by name -/
theorem good_c {w : Cond} {l : List Cond} (h : goodWord w = true) (t : l.all goodWord = true) : (w :: l).all goodWord = true := List.all_eq_true.mpr (List.forall_mem_cons.mpr ⟨h, List.all_eq_true.mp t⟩)
theorem good_a {a b : List Cond} (h : a.all goodWord = true) (t : b.all goodWord = true) : (a ++ b).all goodWord = true := List.all_eq_true.mpr (List.forall_mem_append.mpr ⟨List.all_eq_true.mp h, List.all_eq_true.mp t⟩)
/-! cells of a world by a mask -/
def posT : List Bool → Nat → List Nat
  | [], _ => []
  | true :: m, k => k :: posT m (k + 1)
  | false :: m, k => posT m (k + 1)
def posF : List Bool → Nat → List Nat
  | [], _ => []
  | true :: m, k => posF m (k + 1)
  | false :: m, k => k :: posF m (k + 1)
def kPt : List Bool → va_W → va_W
  | true :: m, a :: l => a :: kPt m l
  | false :: m, _ :: l => kPt m l
  | _, _ => []
def kPf : List Bool → va_W → va_W
  | false :: m, a :: l => a :: kPf m l
  | true :: m, _ :: l => kPf m l
  | _, _ => []
def kMg : List Bool → va_W → va_W → va_W
  | true :: m, a :: c, r => a :: kMg m c r
  | false :: m, c, b :: r => b :: kMg m c r
  | _, c, r => r ++ c
theorem k9_mid (pre l : va_W) (a : Nat × va_E) : (pre ++ a :: l)[pre.length]? = some a := by simp
theorem k9_app (pre l : va_W) (a : Nat × va_E) : pre ++ a :: l = (pre ++ [a]) ++ l := by simp
theorem posT_map : ∀ (m : List Bool) (pre l : va_W), m.length = l.length → (posT m pre.length).map (fun i => (pre ++ l)[i]?) = (kPt m l).map some
  | [], pre, l, h => by
    cases l with
    | nil => rfl
    | cons a l => exact absurd h (by simp)
  | true :: m, pre, [], h => absurd h (by simp)
  | false :: m, pre, [], h => absurd h (by simp)
  | true :: m, pre, a :: l, h => by
    have ih := posT_map m (pre ++ [a]) l (by simpa using h)
    have e : (pre ++ [a]).length = pre.length + 1 := by simp
    rw [e, ← k9_app] at ih
    show (pre ++ a :: l)[pre.length]? :: (posT m (pre.length + 1)).map (fun i => (pre ++ a :: l)[i]?) = some a :: (kPt m l).map some
    rw [ih, k9_mid]
  | false :: m, pre, a :: l, h => by
    have ih := posT_map m (pre ++ [a]) l (by simpa using h)
    have e : (pre ++ [a]).length = pre.length + 1 := by simp
    rw [e, ← k9_app] at ih
    exact ih
theorem posF_map : ∀ (m : List Bool) (pre l : va_W), m.length = l.length → (posF m pre.length).map (fun i => (pre ++ l)[i]?) = (kPf m l).map some
  | [], pre, l, h => by
    cases l with
    | nil => rfl
    | cons a l => exact absurd h (by simp)
  | true :: m, pre, [], h => absurd h (by simp)
  | false :: m, pre, [], h => absurd h (by simp)
  | false :: m, pre, a :: l, h => by
    have ih := posF_map m (pre ++ [a]) l (by simpa using h)
    have e : (pre ++ [a]).length = pre.length + 1 := by simp
    rw [e, ← k9_app] at ih
    show (pre ++ a :: l)[pre.length]? :: (posF m (pre.length + 1)).map (fun i => (pre ++ a :: l)[i]?) = some a :: (kPf m l).map some
    rw [ih, k9_mid]
  | true :: m, pre, a :: l, h => by
    have ih := posF_map m (pre ++ [a]) l (by simpa using h)
    have e : (pre ++ [a]).length = pre.length + 1 := by simp
    rw [e, ← k9_app] at ih
    exact ih
theorem kC_of (m : List Bool) {w0 ws : va_W} (hl : m.length = w0.length) (h : kPt m w0 = ws) : (posT m 0).map (fun i => w0[i]?) = ws.map some := by
  rw [← h]
  exact posT_map m [] w0 hl
theorem kF_of {m : List Bool} {w0 : va_W} (hl : m.length = w0.length) : (posF m 0).map (fun i => w0[i]?) = (kPf m w0).map some := posF_map m [] w0 hl
theorem kCp_at {w0 ws : va_W} {is : List Nat} (h1 : is.map (fun i => w0[i]?) = ws.map some) {j : Nat} {c : Nat × va_E} (h : ws[j]? = some c) : ∃ i, is[j]? = some i ∧ w0[i]? = some c := by
  have h2 : (is.map (fun i => w0[i]?))[j]? = some (some c) := by rw [h1, List.getElem?_map, h]; rfl
  rw [List.getElem?_map] at h2
  cases hi : is[j]? with
  | none => rw [hi] at h2; cases h2
  | some i => rw [hi] at h2; exact ⟨i, rfl, Option.some.inj h2⟩
theorem kCp {w0 ws : va_W} {is : List Nat} (h1 : is.map (fun i => w0[i]?) = ws.map some) : ∀ {ps : List Nat} {wc : va_W}, ps.map (fun i => ws[i]?) = wc.map some → (ps.filterMap (fun j => is[j]?)).map (fun i => w0[i]?) = wc.map some
  | [], [], _ => rfl
  | [], c :: wc, h => by cases h
  | p :: ps, [], h => by cases h
  | p :: ps, c :: wc, h => by
    have a : ws[p]? = some c := (List.cons.inj h).1
    have b : ps.map (fun i => ws[i]?) = wc.map some := (List.cons.inj h).2
    obtain ⟨i, e1, e2⟩ := kCp_at h1 a
    rw [List.filterMap_cons_some e1]
    show w0[i]? :: _ = some c :: wc.map some
    rw [e2, kCp h1 b]
theorem kMg_perm : ∀ (m : List Bool) (c r : va_W), (r ++ c).Perm (kMg m c r)
  | [], _, _ => List.Perm.refl _
  | true :: m, a :: c, r => List.perm_middle.trans ((kMg_perm m c r).cons a)
  | true :: m, [], r => List.Perm.refl _
  | false :: m, c, b :: r => (kMg_perm m c r).cons b
  | false :: m, [], [] => List.Perm.refl _
  | false :: m, a :: c, [] => List.Perm.refl _
theorem k9_P {D : va_G} {cl : List vw_C} {l l' : va_W} {H : Heap} (h : va_P D cl l H) (e : l.Perm l') : va_P D cl l' H := by
  intro k q hk
  obtain ⟨i, hi⟩ := List.getElem?_of_mem (e.mem_iff.mpr (List.mem_of_getElem? hk))
  exact h i q hi
theorem k9_D {A : Nat → Prop} {l l' : va_W} (h : va_D A l) (e : l.Perm l') : va_D A l' := by
  have h1 : l.Pairwise (fun p q => p.1 ≠ q.1) := by
    rw [List.pairwise_iff_getElem]
    intro i j hi hj hij he
    have z := h.1 i j _ _ (List.getElem?_eq_getElem hi) (List.getElem?_eq_getElem hj) he
    omega
  have h2 : l'.Pairwise (fun p q => p.1 ≠ q.1) := e.pairwise h1 (fun z => Ne.symm z)
  rw [List.pairwise_iff_getElem] at h2
  refine ⟨?_, ?_⟩
  · intro i j p q hp hq he
    obtain ⟨hi, ei⟩ := List.getElem?_eq_some_iff.mp hp
    obtain ⟨hj, ej⟩ := List.getElem?_eq_some_iff.mp hq
    rcases Nat.lt_trichotomy i j with z | z | z
    · exact absurd (show (l'[i]).1 = (l'[j]).1 from by rw [ei, ej]; exact he) (h2 i j hi hj z)
    · exact z
    · exact absurd (show (l'[j]).1 = (l'[i]).1 from by rw [ei, ej]; exact he.symm) (h2 j i hj hi z)
  · intro k q hk
    obtain ⟨i, hi⟩ := List.getElem?_of_mem (e.mem_iff.mpr (List.mem_of_getElem? hk))
    exact h.2 i q hi
theorem kJi {D : va_G} {cl : List vw_C} {A0 A1 : Nat → Prop} {w0 : va_W} {m : List Bool} {H1 : Heap} (h : kJ D cl A0 A1 w0 (posF m 0) H1) (hl : m.length = w0.length) {w1 wn : va_W} (hP : va_P D cl w1 H1) (hD : va_D A1 w1) (hw : kMg m w1 (kPf m w0) = wn) : va_P D cl wn H1 ∧ va_D A0 wn := by
  obtain ⟨a, b⟩ := h w1 hP hD (kPf m w0 ++ w1) (by rw [List.map_append, kF_of hl])
  subst hw
  exact ⟨k9_P a (kMg_perm m w1 (kPf m w0)), k9_D b (kMg_perm m w1 (kPf m w0))⟩
theorem kJm {D : va_G} {cl : List vw_C} {A0 A1 : Nat → Prop} {w0 : va_W} {m : List Bool} {H1 : Heap} (h : kJ D cl A0 A1 w0 (posF m 0) H1) (hl : m.length = w0.length) {w1 ws wn : va_W} (hP : va_P D cl w1 H1) (hD : va_D A1 w1) (qs : List Nat) (hn : va_nd qs = true) (hq : qs.map (fun i => w1[i]?) = ws.map some) (hw : kMg m ws (kPf m w0) = wn) : va_P D cl wn H1 ∧ va_D A0 wn := by
  obtain ⟨hPs, hDs⟩ := kPD_sub hP hD qs hn hq
  exact kJi h hl hPs hDs hw
