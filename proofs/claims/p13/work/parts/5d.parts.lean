/-! parts() of the reference -/
def QOR (n m : Int) (Q1 Q2 : Nat → Int32) : Prop := ∀ j : Nat, m < j → (j : Int) < n → 0 ≤ (Q1 j).toInt ∧ (Q1 j).toInt ≤ 70000 * (n - j) ∧ 1 ≤ (Q2 j).toInt ∧ (Q2 j).toInt ≤ n - j
def BFR (U : Nat → Nat → (Nat → Int32) → Nat → (Nat → Int32) → Prop) (T : Int32 → Int32 → Int32) (z n : Nat) (f : Nat → Int32) (pr : Int) (A : Nat → Int → Prop) (i : Nat) (Q1 Q2 Q3 Q4 : Nat → Int32) : Prop := ((Q2 i).toInt = 0 ∧ ∀ (j : Nat) (h s sp : Int), A j h → ¬ cnd U T z n f pr Q1 Q2 i j h s sp) ∨ (0 ≤ (Q1 i).toInt ∧ (Q1 i).toInt ≤ 70000 * ((n : Int) - i) ∧ 1 ≤ (Q2 i).toInt ∧ (Q2 i).toInt ≤ (n : Int) - i ∧ 0 ≤ (Q3 i).toInt ∧ bst U T z n f pr Q1 Q2 A i (Q3 i).toInt.toNat (Q4 i).toInt (Q1 i).toInt (Q2 i).toInt)
/-- what takeSpan answers -/
def F_ts (U : Nat → Nat → (Nat → Int32) → Nat → (Nat → Int32) → Prop) (r l : Int32) (g f : Nat → Int32) (i j : Nat) (h : Int) : Prop := (r.toInt = 1 ∧ ∃ c : Nat, l.toInt = c ∧ SPN U f i j h c g) ∨ (r.toInt = 0 ∧ ∀ (c : Nat) (f2 : Nat → Int32), ¬ SPN U f i j h c f2)
section PR5
variable {U : Nat → Nat → (Nat → Int32) → Nat → (Nat → Int32) → Prop} {T : Int32 → Int32 → Int32}
theorem ts_1 {r l : Int32} {g f : Nat → Int32} {i j : Nat} {h : Int} (a : F_ts U r l g f i j h) (e : ¬ r.toInt = 0) : ∃ c : Nat, l.toInt = c ∧ SPN U f i j h c g := a.elim (fun z => z.2) (fun z => absurd z.1 e)
theorem ts_0 {r l : Int32} {g f : Nat → Int32} {i j : Nat} {h : Int} (a : F_ts U r l g f i j h) (e : r.toInt = 0) : ∀ (c : Nat) (f2 : Nat → Int32), ¬ SPN U f i j h c f2 := a.elim (fun z => by have := z.1; omega) (fun z => z.2)
theorem BFR_A {z n : Nat} {f : Nat → Int32} {pr : Int} {A A' : Nat → Int → Prop} {i : Nat} {Q1 Q2 Q3 Q4 : Nat → Int32} (b : BFR U T z n f pr A i Q1 Q2 Q3 Q4) (hA : ∀ (j : Nat) (h s sp : Int), cnd U T z n f pr Q1 Q2 i j h s sp → (A' j h ↔ A j h)) : BFR U T z n f pr A' i Q1 Q2 Q3 Q4 := by
  rcases b with ⟨b1, b2⟩ | ⟨b1, b2, b3, b4, b5, b6, b7, b8⟩
  · exact Or.inl ⟨b1, fun j h s sp a c => b2 j h s sp ((hA j h s sp c).mp a) c⟩
  · exact Or.inr ⟨b1, b2, b3, b4, b5, b6, (hA _ _ _ _ b6).mpr b7, fun j h s sp a c => b8 j h s sp ((hA j h s sp c).mp a) c⟩
theorem BFR_0 {z n : Nat} {f : Nat → Int32} {pr : Int} {A : Nat → Int → Prop} {i : Nat} {Q1 Q2 Q3 Q4 : Nat → Int32} (h : (Q2 i).toInt = 0) (hA : ∀ (j : Nat) (h : Int), A j h → n < j) : BFR U T z n f pr A i Q1 Q2 Q3 Q4 := Or.inl ⟨h, fun j h' s sp a c => by have := hA j h' a; have := c.2.1; omega⟩
theorem BFR_no {z n : Nat} {f : Nat → Int32} {pr : Int} {A A' : Nat → Int → Prop} {i j0 : Nat} {h0 : Int} {Q1 Q2 Q3 Q4 : Nat → Int32} (b : BFR U T z n f pr A i Q1 Q2 Q3 Q4) (hA : ∀ (j : Nat) (h : Int), A' j h ↔ (A j h ∨ (j = j0 ∧ h = h0))) (hn : ∀ (c : Nat) (f2 : Nat → Int32), ¬ SPN U f i j0 h0 c f2) : BFR U T z n f pr A' i Q1 Q2 Q3 Q4 := by
  refine BFR_A b (fun j h s sp c => ⟨fun a => ?_, fun a => (hA j h).mpr (Or.inl a)⟩)
  rcases (hA j h).mp a with w | ⟨w1, w2⟩
  · exact w
  · subst w1
    subst w2
    obtain ⟨_, _, _, _, ⟨c', f', c5, _⟩, _⟩ := c
    exact absurd c5 (hn _ _)
/-- c and sp are what it costs -/
theorem cnd_of {z n : Nat} {f g : Nat → Int32} {pr co x c sp : Int} {C S : Nat → Int32} {i j m : Nat} {h : Int} (h1 : i < j) (h2 : j ≤ n) (h3 : -1 ≤ h ∧ h < z) (hs : SPN U f i j h m g) (hx : x = cT T m g) (hc : c = x + (if j < n then pr + (C j).toInt else 0)) (hp : sp = 1 + (if j < n then (S j).toInt else 0)) : cnd U T z n f pr C S i j h c sp := ⟨h1, h2, h3.1, h3.2, ⟨m, g, hs, by rw [hc, hx]⟩, hp⟩
theorem BFR_keep (hU : okU U) {z n : Nat} {f : Nat → Int32} {pr c sp : Int} {A A' : Nat → Int → Prop} {i j0 : Nat} {h0 : Int} {Q1 Q2 Q3 Q4 : Nat → Int32} (b : BFR U T z n f pr A i Q1 Q2 Q3 Q4) (hn : n ≤ 300) (hf : prg n 0 65535 f) (hA : ∀ (j : Nat) (h : Int), A' j h ↔ (A j h ∨ (j = j0 ∧ h = h0))) (hc : cnd U T z n f pr Q1 Q2 i j0 h0 c sp) (h1 : ¬ (Q2 i).toInt = 0) (h2 : (Q1 i).toInt < c ∨ ((Q1 i).toInt = c ∧ (Q2 i).toInt ≤ sp)) (hl : ∀ (j : Nat) (h : Int), A j h → j0 < j ∨ (j = j0 ∧ h ≤ h0)) : BFR U T z n f pr A' i Q1 Q2 Q3 Q4 := by
  rcases b with ⟨b1, _⟩ | ⟨b1, b2, b3, b4, b5, b6⟩
  · exact absurd b1 h1
  · refine Or.inr ⟨b1, b2, b3, b4, b5, bst_add b6 hA (fun s' sp' c2 => ?_)⟩
    obtain ⟨w1, w2⟩ := cnd_u hU hn hf c2 hc
    have w3 := hl _ _ b6.2.1
    unfold LE4
    omega
theorem BFR_set (hU : okU U) {z n : Nat} {f : Nat → Int32} {pr : Int} {A A' : Nat → Int → Prop} {i j0 : Nat} {c sp en h0 : Int32} {Q1 Q1' Q2 Q2' Q3 Q3' Q4 Q4' : Nat → Int32} (b : BFR U T z n f pr A i Q1 Q2 Q3 Q4) (hn : n ≤ 300) (hf : prg n 0 65535 f) (hA : ∀ (j : Nat) (h : Int), A' j h ↔ (A j h ∨ (j = j0 ∧ h = h0.toInt))) (hc : cnd U T z n f pr Q1 Q2 i j0 h0.toInt c.toInt sp.toInt) (ej : en.toInt = j0) (h2 : (Q2 i).toInt ≤ 0 ∨ c.toInt < (Q1 i).toInt ∨ (c.toInt = (Q1 i).toInt ∧ sp.toInt < (Q2 i).toInt)) (bd : 0 ≤ c.toInt ∧ c.toInt ≤ 70000 * ((n : Int) - i) ∧ 1 ≤ sp.toInt ∧ sp.toInt ≤ (n : Int) - i) (e1 : Q1' = upd Q1 i c) (e2 : Q2' = upd Q2 i sp) (e3 : Q3' = upd Q3 i en) (e4 : Q4' = upd Q4 i h0) : BFR U T z n f pr A' i Q1' Q2' Q3' Q4' := by
  have cg : ∀ k, i < k → k < n → Q1 k = Q1' k ∧ Q2 k = Q2' k := fun k k1 k2 => by rw [e1, e2, pk_un (by omega), pk_un (by omega)]; exact ⟨rfl, rfl⟩
  refine Or.inr ?_
  have f1 : Q1' i = c := by rw [e1, pk_us]
  have f2 : Q2' i = sp := by rw [e2, pk_us]
  have f3 : Q3' i = en := by rw [e3, pk_us]
  have f4 : Q4' i = h0 := by rw [e4, pk_us]
  rw [f1, f2, f3, f4]
  refine ⟨bd.1, bd.2.1, bd.2.2.1, bd.2.2.2, by omega, bst_cg cg ?_⟩
  have ee : en.toInt.toNat = j0 := by omega
  rw [ee]
  refine bst_new hA hc (fun s2 sp2 c2 => cnd_u hU hn hf c2 hc) ?_
  rcases b with ⟨_, b2⟩ | ⟨b1, b2, b3, b4, b5, b6⟩
  · exact Or.inl b2
  · refine Or.inr ⟨_, _, _, _, b6, ?_⟩
    unfold LE4
    omega
theorem BFR_all {z n : Nat} {f : Nat → Int32} {pr : Int} {A : Nat → Int → Prop} {i : Nat} {Q1 Q2 Q3 Q4 : Nat → Int32} (b : BFR U T z n f pr A i Q1 Q2 Q3 Q4) (hi : i < n) (hA : ∀ (j : Nat) (h s sp : Int), cnd U T z n f pr Q1 Q2 i j h s sp → A j h) : 0 ≤ (Q1 i).toInt ∧ (Q1 i).toInt ≤ 70000 * ((n : Int) - i) ∧ 1 ≤ (Q2 i).toInt ∧ (Q2 i).toInt ≤ (n : Int) - i ∧ 0 ≤ (Q3 i).toInt ∧ bst U T z n f pr Q1 Q2 (fun _ _ => True) i (Q3 i).toInt.toNat (Q4 i).toInt (Q1 i).toInt (Q2 i).toInt := by
  rcases b with ⟨b1, b2⟩ | ⟨b1, b2, b3, b4, b5, b6, b7, b8⟩
  · have c : cnd U T z n f pr Q1 Q2 i n (-1) (cT T ((n - i : Nat) : Int) (fun k => f (i + k)) + (if n < n then pr + (Q1 n).toInt else 0)) (1 + (if n < n then (Q2 n).toInt else 0)) := ⟨hi, Nat.le_refl _, by omega, by omega, ⟨n - i, _, Or.inl ⟨rfl, rfl, fun _ _ => rfl⟩, rfl⟩, rfl⟩
    exact absurd c (b2 _ _ _ _ (hA _ _ _ _ c))
  · exact ⟨b1, b2, b3, b4, b5, b6, trivial, fun j h s sp _ c => b8 j h s sp (hA j h s sp c) c⟩
theorem QOR_u {n m : Int} {Q1 Q1' Q2 Q2' : Nat → Int32} {i : Nat} {a b : Int32} (h : QOR n m Q1 Q2) (hi : (i : Int) ≤ m) (e1 : Q1' = upd Q1 i a ∨ Q1' = Q1) (e2 : Q2' = upd Q2 i b ∨ Q2' = Q2) : QOR n m Q1' Q2' := by
  intro j h1 h2
  have q := h j h1 h2
  have w1 : Q1' j = Q1 j := by
    rcases e1 with e | e
    · rw [e, pk_un (by omega)]
    · rw [e]
  have w2 : Q2' j = Q2 j := by
    rcases e2 with e | e
    · rw [e, pk_un (by omega)]
    · rw [e]
  rw [w1, w2]; exact q
theorem QOR_dn {n m m' : Int} {i : Nat} {Q1 Q2 : Nat → Int32} (h : QOR n m Q1 Q2) (em : m = i) (em' : m' = i - 1) (b : 0 ≤ (Q1 i).toInt ∧ (Q1 i).toInt ≤ 70000 * (n - i) ∧ 1 ≤ (Q2 i).toInt ∧ (Q2 i).toInt ≤ n - i) : QOR n m' Q1 Q2 := by
  intro j h1 h2
  by_cases e : j = i
  · subst e; exact b
  · exact h j (by omega) h2
theorem only_4 {i : Nat} {a b c d : Int32} {Q1 Q1' Q2 Q2' Q3 Q3' Q4 Q4' : Nat → Int32} (e1 : Q1' = upd Q1 i a) (e2 : Q2' = upd Q2 i b) (e3 : Q3' = upd Q3 i c) (e4 : Q4' = upd Q4 i d) : onlyI i Q1 Q1' Q2 Q2' Q3 Q3' Q4 Q4' := fun k hk => by
  rw [e1, e2, e3, e4, pk_un hk, pk_un hk, pk_un hk, pk_un hk]; exact ⟨rfl, rfl, rfl, rfl⟩
theorem only_2 {i : Nat} {b : Int32} {Q1 Q2 Q2' Q3 Q4 : Nat → Int32} (e2 : Q2' = upd Q2 i b) : onlyI i Q1 Q1 Q2 Q2' Q3 Q3 Q4 Q4 := fun k hk => by
  rw [e2, pk_un hk]; exact ⟨rfl, rfl, rfl, rfl⟩
/-- the reference lays a span behind the others -/
theorem lay_r {n m : Nat} {f E H g g2 g' : Nat → Int32} {fr fr' l l2 l' k : Int32} (h : LYD U n f E H fr l g) (hi : fr.toNatClampNeg < n) (hs : SPN U f fr.toNatClampNeg (E fr.toNatClampNeg).toInt.toNat (H fr.toNatClampNeg).toInt m g2) (hm : l2.toInt = m) (hc : CPB l.toInt k.toInt g g' g2) (hk : k.toInt = l2.toInt) (h0 : 0 ≤ l.toInt) (hl : l'.toInt = l.toInt + l2.toInt) (hf : fr'.toInt = (E fr.toNatClampNeg).toInt) (hE : 0 ≤ (E fr.toNatClampNeg).toInt) : LYD U n f E H fr' l' g' := by
  obtain ⟨q, hq⟩ := h
  have st := RCH_step hq hi hs (fm' := g') (fun p hp => hc.2 p (Or.inl (by omega))) (fun p hp => hc.1 p (by omega))
  have e1 : fr'.toNatClampNeg = (E fr.toNatClampNeg).toInt.toNat := ix_eq (by omega)
  have e2 : l'.toInt.toNat = l.toInt.toNat + m := by omega
  exact ⟨q + 1, by rw [e1, e2]; exact st⟩
theorem lay_rn (hU : okU U) {z n m : Nat} {f E H C S g g2 g' : Nat → Int32} {pr : Int} {fr l l2 k : Int32} (hf : prg n 0 65535 f) (hB : PBK U T z n f pr 0 C S E H) (h : LYD U n f E H fr l g) (hi : fr.toNatClampNeg < n) (hs : SPN U f fr.toNatClampNeg (E fr.toNatClampNeg).toInt.toNat (H fr.toNatClampNeg).toInt m g2) (hm : l2.toInt = m) (hc : CPB l.toInt k.toInt g g' g2) (hk : k.toInt = l2.toInt) (h0 : 0 ≤ l.toInt) (h3 : 300 < l.toInt + l2.toInt) : ∀ c fm v, ¬ ptP U T z n f pr c fm v := by
  obtain ⟨q, hq⟩ := h
  have st := RCH_step hq hi hs (fm' := g') (fun p hp => hc.2 p (Or.inl (by omega))) (fun p hp => hc.1 p (by omega))
  exact pt_big hU hf hB st (by omega)
theorem lay_rp {z n : Nat} {f fm E H C S : Nat → Int32} {pr v : Int} {fr l : Int32} (hB : PBK U T z n f pr 0 C S E H) (h : LYD U n f E H fr l fm) (hn : fr.toInt = n) (hl : 0 ≤ l.toInt ∧ l.toInt ≤ 300) (h0 : 1 ≤ n ∧ n ≤ 60 ∧ 0 ≤ pr ∧ pr ≤ 1000) (hv : v = (S 0).toInt) : ∃ c : Nat, l.toInt = c ∧ ptP U T z n f pr c fm v := by
  obtain ⟨k, hk⟩ := h
  rw [ix_eq hn] at hk
  exact ⟨l.toInt.toNat, by omega, h0, C, S, E, H, hB, hv, by omega, k, hk⟩
end PR5

theorem ts_as {U : Nat → Nat → (Nat → Int32) → Nat → (Nat → Int32) → Prop} {r l : Int32} {g f : Nat → Int32} {i j : Nat} {h : Int} (hr : r.toInt = 1) (hh : h = -1) (hl : l.toInt = (j : Int) - i) (hcp : ∀ k : Nat, (k : Int) < l.toInt → g k = f (i + k)) (hij : i ≤ j) : F_ts U r l g f i j h := Or.inl ⟨hr, j - i, by omega, Or.inl ⟨hh, rfl, fun k hk => hcp k (by omega)⟩⟩
theorem ts_un {U : Nat → Nat → (Nat → Int32) → Nat → (Nat → Int32) → Prop} (hU : okU U) {r q l : Int32} {g f w : Nat → Int32} {i j k : Nat} {h n : Int} (ht : F_to U q l g k n w) (hk : h = k) (hn : n = (j : Int) - i) (hw : ∀ p : Nat, (p : Int) < n → w p = f (i + p)) (hr : r.toInt = q.toInt) (hij : i ≤ j) : F_ts U r l g f i j h := by
  have e : n.toNat = j - i := by omega
  have ek : h.toNat = k := by omega
  unfold F_to at ht
  rw [e] at ht
  rcases ht with ⟨a, c, a1, a2⟩ | ⟨a, a1⟩
  · refine Or.inl ⟨by rw [hr, a]; rfl, c, a1, Or.inr ⟨by omega, ?_⟩⟩
    rw [ek]
    exact hU.2.1 _ _ _ _ _ _ (fun p hp => hw p (by omega)) a2
  · refine Or.inr ⟨by rw [hr, a]; rfl, fun c f2 w2 => ?_⟩
    rcases w2 with ⟨w2, _⟩ | ⟨_, w2⟩
    · omega
    · rw [ek] at w2
      exact a1 c f2 (hU.2.1 _ _ _ _ _ _ (fun p hp => (hw p (by omega)).symm) w2)
theorem tsp_s {b : Nat} {k k' fo a x : Int32} {g g' f : Nat → Int32} (h : ∀ j : Nat, (j : Int) < k.toInt - fo.toInt → g j = f (b + j)) (eb : fo.toInt = b) (ex : x = f k.toNatClampNeg) (eg : g' = upd g a.toNatClampNeg x) (ha : a.toInt = k.toInt - fo.toInt) (h0 : fo.toInt ≤ k.toInt) (hk : k'.toInt = k.toInt + 1) : ∀ j : Nat, (j : Int) < k'.toInt - fo.toInt → g' j = f (b + j) := by
  intro j hj
  have c := v_clamp (x := a) (by omega)
  rw [eg]
  by_cases z : j = a.toNatClampNeg
  · rw [z, pk_us, ex, ix_eq (x := k) (N := b + a.toNatClampNeg) (by omega)]
  · rw [pk_un z]; exact h j (by omega)
theorem ts_y {U : Nat → Nat → (Nat → Int32) → Nat → (Nat → Int32) → Prop} {r l : Int32} {g f : Nat → Int32} {i j : Nat} {h : Int} (a : F_ts U r l g f i j h) (e : ∃ c f', SPN U f i j h c f') : ∃ c : Nat, l.toInt = c ∧ SPN U f i j h c g := by
  rcases a with ⟨_, a⟩ | ⟨_, a⟩
  · exact a
  · obtain ⟨c, f', e⟩ := e
    exact absurd e (a _ _)

set_option maxHeartbeats 40000000 in
set_option maxRecDepth 100000 in
theorem f_X12_takeSpan (l : Launch) (dC : Nat → ClassId) (dI : Nat → Nat → Nat) (cI cS : ClassId) (sz : Nat) (oM : Nat) (mT : Nat) (mS : Nat) (mX : Nat) (mL : Nat) (mB : Nat) (mD : Nat) (m1 : Nat) (m2 : Nat) (mR : Nat) (x1 : Nat) (x2 : Nat) (x3 : Nat) (mH : Nat) (mY : Nat) (mE : Nat) (mW : Nat) (mO : Nat) (y1 : Nat) (y2 : Nat) (y3 : Nat) (y4 : Nat) (mZ : Nat) (zt : Int32) (zp : Int32) (zf : Int32) (zh : Int32) (zr : Int32) (zc : Int32) (zy : Int32) (za : Int32) (zb : Int32) (zs : Int32) (zq : Int32) (zw : Int32) (ze : Int32) (zn : Int32) (zm : Int32) (zl : Int32) (zk : Int32) (zd : Int32) (eY : Nat → Int32) (eB : Nat → Int32) (eL : Nat → Int32) (eE : Nat → Int32) (eW : Nat → Int32) (eO : Nat → Int32) (eS : Nat → Int32) (eX : Nat → Int32) (e1 : Nat → Int32) (e2 : Nat → Int32) (fo : Int32) (to_ : Int32) (ha : Int32) (g_zt : 0 ≤ zt.toInt ∧ zt.toInt ≤ 900) (g_zp : 0 ≤ zp.toInt ∧ zp.toInt ≤ 20) (g_zf : 0 ≤ zf.toInt ∧ zf.toInt ≤ 19) (g_zh : 0 ≤ zh.toInt ∧ zh.toInt ≤ 6) (g_zr : 0 ≤ zr.toInt ∧ zr.toInt ≤ 258) (g_zc : 0 ≤ zc.toInt ∧ zc.toInt ≤ 300) (g_zy : 0 ≤ zy.toInt ∧ zy.toInt ≤ 65536) (g_za : 0 ≤ za.toInt ∧ za.toInt ≤ 5) (g_zb : 0 ≤ zb.toInt ∧ zb.toInt ≤ 5) (g_zs : 0 ≤ zs.toInt ∧ zs.toInt ≤ 2000000) (g_zq : -1 ≤ zq.toInt ∧ zq.toInt ≤ 2000000) (g_zn : 0 ≤ zn.toInt ∧ zn.toInt ≤ 2600) (g_zm : 0 ≤ zm.toInt ∧ zm.toInt ≤ 2600) (g_zk : 0 ≤ zk.toInt ∧ zk.toInt ≤ 300) (g_eY : rg 0 255 eY) (g_eB : rg (-1) 255 eB) (g_eL : rg (-1) 65535 eL) (g_eE : rg 0 65535 eE) (g_eW : rg 0 65535 eW) (g_eO : rg 0 65535 eO) (g_eS : rg 0 300 eS) (g_eX : rg 0 65535 eX) (g_e1 : rg 0 5 e1) (g_e2 : rg 0 5 e2) (g_fo : 0 ≤ fo.toInt ∧ fo.toInt ≤ 300) (g_to_ : 0 ≤ to_.toInt ∧ to_.toInt ≤ 300) (g_ha : -1 ≤ ha.toInt ∧ ha.toInt ≤ 5) (hft : fo.toInt ≤ to_.toInt) (hto : to_.toInt ≤ (eS 0).toInt) (hha : ha.toInt < zh.toInt) (hxl : ∀ j : Nat, (j : Int) < (eS 0).toInt → isLz (eX j)) (hlb : LBr eL eB) (hlz : LZ eL) : Met l yX12_takeSpan wsX12_takeSpan ({ frames := 5, cells := 0, slots := 0, locals := 120 } : Room) (va_Pc [.ref oM, .int fo, .int to_, .int ha] (fun U => U.heap.size = sz ∧ va_P (dC, dI) vwCl [(oM, .inr (12, [.ref mT, .int zt, .ref mS, .ref mX, .int zp, .int zf, .ref mL, .ref mB, .ref mD, .ref m1, .ref m2, .int zh, .ref mR, .int zr, .ref x1, .ref x2, .ref x3, .int zc, .ref mH, .int zy, .int za, .int zb, .int zs, .int zq, .int zw, .int ze, .ref mY, .int zn, .ref mE, .int zm, .int zl, .ref mW, .int zk, .ref mO, .int zd, .ref y1, .ref y2, .ref y3, .ref y4, .ref mZ])), (mY, .inl (cI, 2600, .inl eY)), (mB, .inl (cS, 131072, .inl eB)), (mL, .inl (cI, 512, .inl eL)), (mE, .inl (cI, 2600, .inl eE)), (mW, .inl (cI, 300, .inl eW)), (mO, .inl (cI, 300, .inl eO)), (mS, .inl (cI, 21, .inl eS)), (mX, .inl (cI, 6300, .inl eX)), (m1, .inl (cI, 6, .inl e1)), (m2, .inl (cI, 6, .inl e2))] U.heap ∧ va_K (dC, dI) vwCl [(cI, .int), (cS, .short)] U ∧ va_D (fun _ => True) [(oM, .inr (12, [.ref mT, .int zt, .ref mS, .ref mX, .int zp, .int zf, .ref mL, .ref mB, .ref mD, .ref m1, .ref m2, .int zh, .ref mR, .int zr, .ref x1, .ref x2, .ref x3, .int zc, .ref mH, .int zy, .int za, .int zb, .int zs, .int zq, .int zw, .int ze, .ref mY, .int zn, .ref mE, .int zm, .int zl, .ref mW, .int zk, .ref mO, .int zd, .ref y1, .ref y2, .ref y3, .ref y4, .ref mZ])), (mY, .inl (cI, 2600, .inl eY)), (mB, .inl (cS, 131072, .inl eB)), (mL, .inl (cI, 512, .inl eL)), (mE, .inl (cI, 2600, .inl eE)), (mW, .inl (cI, 300, .inl eW)), (mO, .inl (cI, 300, .inl eO)), (mS, .inl (cI, 21, .inl eS)), (mX, .inl (cI, 6300, .inl eX)), (m1, .inl (cI, 6, .inl e1)), (m2, .inl (cI, 6, .inl e2))])) (va_Qi (fun (r : Int32) (u : Int32) => r = u) (fun (r : Int32) t => ∃ (zn' : Int32) (eY' : Nat → Int32) (zd' : Int32) (zm' : Int32) (zl' : Int32) (eE' : Nat → Int32) (zk' : Int32) (eW' : Nat → Int32) (eO' : Nat → Int32), va_P (dC, dI) vwCl [(oM, .inr (12, [.ref mT, .int zt, .ref mS, .ref mX, .int zp, .int zf, .ref mL, .ref mB, .ref mD, .ref m1, .ref m2, .int zh, .ref mR, .int zr, .ref x1, .ref x2, .ref x3, .int zc, .ref mH, .int zy, .int za, .int zb, .int zs, .int zq, .int zw, .int ze, .ref mY, .int zn', .ref mE, .int zm', .int zl', .ref mW, .int zk', .ref mO, .int zd', .ref y1, .ref y2, .ref y3, .ref y4, .ref mZ])), (mY, .inl (cI, 2600, .inl eY')), (mB, .inl (cS, 131072, .inl eB)), (mL, .inl (cI, 512, .inl eL)), (mE, .inl (cI, 2600, .inl eE')), (mW, .inl (cI, 300, .inl eW')), (mO, .inl (cI, 300, .inl eO')), (mS, .inl (cI, 21, .inl eS)), (mX, .inl (cI, 6300, .inl eX)), (m1, .inl (cI, 6, .inl e1)), (m2, .inl (cI, 6, .inl e2))] t.heap ∧ va_D (va_A [(oM, .inr (12, [.ref mT, .int zt, .ref mS, .ref mX, .int zp, .int zf, .ref mL, .ref mB, .ref mD, .ref m1, .ref m2, .int zh, .ref mR, .int zr, .ref x1, .ref x2, .ref x3, .int zc, .ref mH, .int zy, .int za, .int zb, .int zs, .int zq, .int zw, .int ze, .ref mY, .int zn, .ref mE, .int zm, .int zl, .ref mW, .int zk, .ref mO, .int zd, .ref y1, .ref y2, .ref y3, .ref y4, .ref mZ])), (mY, .inl (cI, 2600, .inl eY)), (mB, .inl (cS, 131072, .inl eB)), (mL, .inl (cI, 512, .inl eL)), (mE, .inl (cI, 2600, .inl eE)), (mW, .inl (cI, 300, .inl eW)), (mO, .inl (cI, 300, .inl eO)), (mS, .inl (cI, 21, .inl eS)), (mX, .inl (cI, 6300, .inl eX)), (m1, .inl (cI, 6, .inl e1)), (m2, .inl (cI, 6, .inl e2))] sz) [(oM, .inr (12, [.ref mT, .int zt, .ref mS, .ref mX, .int zp, .int zf, .ref mL, .ref mB, .ref mD, .ref m1, .ref m2, .int zh, .ref mR, .int zr, .ref x1, .ref x2, .ref x3, .int zc, .ref mH, .int zy, .int za, .int zb, .int zs, .int zq, .int zw, .int ze, .ref mY, .int zn', .ref mE, .int zm', .int zl', .ref mW, .int zk', .ref mO, .int zd', .ref y1, .ref y2, .ref y3, .ref y4, .ref mZ])), (mY, .inl (cI, 2600, .inl eY')), (mB, .inl (cS, 131072, .inl eB)), (mL, .inl (cI, 512, .inl eL)), (mE, .inl (cI, 2600, .inl eE')), (mW, .inl (cI, 300, .inl eW')), (mO, .inl (cI, 300, .inl eO')), (mS, .inl (cI, 21, .inl eS)), (mX, .inl (cI, 6300, .inl eX)), (m1, .inl (cI, 6, .inl e1)), (m2, .inl (cI, 6, .inl e2))] ∧ (0 ≤ zn'.toInt ∧ zn'.toInt ≤ 2600) ∧ (rg 0 255 eY') ∧ (0 ≤ zm'.toInt ∧ zm'.toInt ≤ 2600) ∧ (rg 0 65535 eE') ∧ (0 ≤ zk'.toInt ∧ zk'.toInt ≤ 300) ∧ (rg 0 65535 eW') ∧ (rg 0 65535 eO') ∧ (0 ≤ r.toInt ∧ r.toInt ≤ 1) ∧ (F_ts (UR e1 e2 eL eB) r zk' eW' eX fo.toNatClampNeg to_.toNatClampNeg ha.toInt)) (va_A [(oM, .inr (12, [.ref mT, .int zt, .ref mS, .ref mX, .int zp, .int zf, .ref mL, .ref mB, .ref mD, .ref m1, .ref m2, .int zh, .ref mR, .int zr, .ref x1, .ref x2, .ref x3, .int zc, .ref mH, .int zy, .int za, .int zb, .int zs, .int zq, .int zw, .int ze, .ref mY, .int zn, .ref mE, .int zm, .int zl, .ref mW, .int zk, .ref mO, .int zd, .ref y1, .ref y2, .ref y3, .ref y4, .ref mZ])), (mY, .inl (cI, 2600, .inl eY)), (mB, .inl (cS, 131072, .inl eB)), (mL, .inl (cI, 512, .inl eL)), (mE, .inl (cI, 2600, .inl eE)), (mW, .inl (cI, 300, .inl eW)), (mO, .inl (cI, 300, .inl eO)), (mS, .inl (cI, 21, .inl eS)), (mX, .inl (cI, 6300, .inl eX)), (m1, .inl (cI, 6, .inl e1)), (m2, .inl (cI, 6, .inl e2))] sz)) 0 0 (va_A [(oM, .inr (12, [.ref mT, .int zt, .ref mS, .ref mX, .int zp, .int zf, .ref mL, .ref mB, .ref mD, .ref m1, .ref m2, .int zh, .ref mR, .int zr, .ref x1, .ref x2, .ref x3, .int zc, .ref mH, .int zy, .int za, .int zb, .int zs, .int zq, .int zw, .int ze, .ref mY, .int zn, .ref mE, .int zm, .int zl, .ref mW, .int zk, .ref mO, .int zd, .ref y1, .ref y2, .ref y3, .ref y4, .ref mZ])), (mY, .inl (cI, 2600, .inl eY)), (mB, .inl (cS, 131072, .inl eB)), (mL, .inl (cI, 512, .inl eL)), (mE, .inl (cI, 2600, .inl eE)), (mW, .inl (cI, 300, .inl eW)), (mO, .inl (cI, 300, .inl eO)), (mS, .inl (cI, 21, .inl eS)), (mX, .inl (cI, 6300, .inl eX)), (m1, .inl (cI, 6, .inl e1)), (m2, .inl (cI, 6, .inl e2))] sz) := by
  refine Met.ofW (cc := cX12_takeSpan) (maxL := 5) (ret := (some .boolean)) (by decide) rfl ?_
  intro p e s m args below meth c s₁ B hml hv
  obtain ⟨rfl, hsz, hP, hK, hD0⟩ := hv
  have hx := B.exec
  have hb := B.bytes
  have hr := B.returns
  have hts := atoms_spec (ws := wsX12_takeSpan) B.pre
  have hown : s.vm.findClass RX12 = some m.cls := findClass_of_methodNamed B.named
  have hlocks := B.notSynchronized
  have in_X12 : ∀ w ∈ wsX120, w ∈ wsX12_takeSpan := fun _ h => List.mem_cons_of_mem _ (List.mem_append_right _ (h))
  subst hsz
  have hD := hD0.self (sz := s.heap.size)
  generalize hAe : va_A [(oM, .inr (12, [.ref mT, .int zt, .ref mS, .ref mX, .int zp, .int zf, .ref mL, .ref mB, .ref mD, .ref m1, .ref m2, .int zh, .ref mR, .int zr, .ref x1, .ref x2, .ref x3, .int zc, .ref mH, .int zy, .int za, .int zb, .int zs, .int zq, .int zw, .int ze, .ref mY, .int zn, .ref mE, .int zm, .int zl, .ref mW, .int zk, .ref mO, .int zd, .ref y1, .ref y2, .ref y3, .ref y4, .ref mZ])), (mY, .inl (cI, 2600, .inl eY)), (mB, .inl (cS, 131072, .inl eB)), (mL, .inl (cI, 512, .inl eL)), (mE, .inl (cI, 2600, .inl eE)), (mW, .inl (cI, 300, .inl eW)), (mO, .inl (cI, 300, .inl eO)), (mS, .inl (cI, 21, .inl eS)), (mX, .inl (cI, 6300, .inl eX)), (m1, .inl (cI, 6, .inl e1)), (m2, .inl (cI, 6, .inl e2))] s.heap.size = A at hD ⊢
  have hA : ∀ q : Nat, s.heap.size ≤ q → A q := fun q h => by rw [← hAe]; exact Or.inr h
  have hS : va_S A s.heap s.heap [] := va_S.rf
  have hP : va_P (dC, dI) vwCl [(oM, .inr (12, [.ref mT, .int zt, .ref mS, .ref mX, .int zp, .int zf, .ref mL, .ref mB, .ref mD, .ref m1, .ref m2, .int zh, .ref mR, .int zr, .ref x1, .ref x2, .ref x3, .int zc, .ref mH, .int zy, .int za, .int zb, .int zs, .int zq, .int zw, .int ze, .ref mY, .int zn, .ref mE, .int zm, .int zl, .ref mW, .int zk, .ref mO, .int zd, .ref y1, .ref y2, .ref y3, .ref y4, .ref mZ])), (mY, .inl (cI, 2600, .inl eY)), (mB, .inl (cS, 131072, .inl eB)), (mL, .inl (cI, 512, .inl eL)), (mE, .inl (cI, 2600, .inl eE)), (mW, .inl (cI, 300, .inl eW)), (mO, .inl (cI, 300, .inl eO)), (mS, .inl (cI, 21, .inl eS)), (mX, .inl (cI, 6300, .inl eX)), (m1, .inl (cI, 6, .inl e1)), (m2, .inl (cI, 6, .inl e2))] s.heap := hP
  have hl := lv_entry ([.ref oM, .int fo, .int to_, .int ha]) (n := 5) (Nat.le_of_ble_eq_true rfl)
  rw [lg_entry_eq]
  generalize (lg_sl ([.ref oM, .int fo, .int to_, .int ha]) ++ List.replicate (5 - (lg_sl ([.ref oM, .int fo, .int to_, .int ha])).length) Slot.unset).toArray = ls at hl ⊢
  have hl : lv_has ls 5 [(0, .ref oM), (1, .int fo), (2, .int to_), (3, .int ha)] := hl
  obtain ⟨QQ, hQQ⟩ : ∃ QQ : Array Value → State → Outcome → State → Prop, QQ = va_Qi (fun (r : Int32) (u : Int32) => r = u) (fun (r : Int32) t => ∃ (zn' : Int32) (eY' : Nat → Int32) (zd' : Int32) (zm' : Int32) (zl' : Int32) (eE' : Nat → Int32) (zk' : Int32) (eW' : Nat → Int32) (eO' : Nat → Int32), va_P (dC, dI) vwCl [(oM, .inr (12, [.ref mT, .int zt, .ref mS, .ref mX, .int zp, .int zf, .ref mL, .ref mB, .ref mD, .ref m1, .ref m2, .int zh, .ref mR, .int zr, .ref x1, .ref x2, .ref x3, .int zc, .ref mH, .int zy, .int za, .int zb, .int zs, .int zq, .int zw, .int ze, .ref mY, .int zn', .ref mE, .int zm', .int zl', .ref mW, .int zk', .ref mO, .int zd', .ref y1, .ref y2, .ref y3, .ref y4, .ref mZ])), (mY, .inl (cI, 2600, .inl eY')), (mB, .inl (cS, 131072, .inl eB)), (mL, .inl (cI, 512, .inl eL)), (mE, .inl (cI, 2600, .inl eE')), (mW, .inl (cI, 300, .inl eW')), (mO, .inl (cI, 300, .inl eO')), (mS, .inl (cI, 21, .inl eS)), (mX, .inl (cI, 6300, .inl eX)), (m1, .inl (cI, 6, .inl e1)), (m2, .inl (cI, 6, .inl e2))] t.heap ∧ va_D A [(oM, .inr (12, [.ref mT, .int zt, .ref mS, .ref mX, .int zp, .int zf, .ref mL, .ref mB, .ref mD, .ref m1, .ref m2, .int zh, .ref mR, .int zr, .ref x1, .ref x2, .ref x3, .int zc, .ref mH, .int zy, .int za, .int zb, .int zs, .int zq, .int zw, .int ze, .ref mY, .int zn', .ref mE, .int zm', .int zl', .ref mW, .int zk', .ref mO, .int zd', .ref y1, .ref y2, .ref y3, .ref y4, .ref mZ])), (mY, .inl (cI, 2600, .inl eY')), (mB, .inl (cS, 131072, .inl eB)), (mL, .inl (cI, 512, .inl eL)), (mE, .inl (cI, 2600, .inl eE')), (mW, .inl (cI, 300, .inl eW')), (mO, .inl (cI, 300, .inl eO')), (mS, .inl (cI, 21, .inl eS)), (mX, .inl (cI, 6300, .inl eX)), (m1, .inl (cI, 6, .inl e1)), (m2, .inl (cI, 6, .inl e2))] ∧ (0 ≤ zn'.toInt ∧ zn'.toInt ≤ 2600) ∧ (rg 0 255 eY') ∧ (0 ≤ zm'.toInt ∧ zm'.toInt ≤ 2600) ∧ (rg 0 65535 eE') ∧ (0 ≤ zk'.toInt ∧ zk'.toInt ≤ 300) ∧ (rg 0 65535 eW') ∧ (rg 0 65535 eO') ∧ (0 ≤ r.toInt ∧ r.toInt ≤ 1) ∧ (F_ts (UR e1 e2 eL eB) r zk' eW' eX fo.toNatClampNeg to_.toNatClampNeg ha.toInt)) A := ⟨_, rfl⟩
  rw [← hQQ]
  have hU : okU (UR e1 e2 eL eB) := okU_R g_eB g_eL
  have hlb9 := hlb
  have z0 : (0 : Int32).toInt = 0 := rfl
  have z1 : (1 : Int32).toInt = 1 := rfl
  have zm1 : (-1 : Int32).toInt = -1 := rfl
  have cf0 := v_clamp (x := fo) (by omega)
  have ct0 := v_clamp (x := to_) (by omega)
  refine lv_aload_n hx hb dX12_takeSpan_0 rfl (lv_at hl 0 rfl) ?_
  refine lv_iload_n hx hb dX12_takeSpan_1 rfl (lv_at hl 2 rfl) ?_
  refine lv_iload_n hx hb dX12_takeSpan_2 rfl (lv_at hl 1 rfl) ?_
  refine lv_isub hx hb dX12_takeSpan_3 ?_
  refine lv_topi (fun x_1 ex_1 => ?_)
  have tx_1 : x_1.toInt = to_.toInt - fo.toInt := v_sub ex_1 (by show -2147483648 ≤ to_.toInt - fo.toInt; omega) (by show to_.toInt - fo.toInt < 2147483648; omega)
  refine va_put (D := (dC, dI)) (ci := 12) (v := .int x_1) (ty := .int) (C := RX12) (T := TX12) (N := 40) hx hb hts in_X12 tyX12 tyX12_ok nmX12 hown hK hP hD hS 0 rfl rfl 32 (by decide) (hts (.fieldLink RX12 135 "TextMenderModel" "workMany" "I") (List.mem_of_getElem? (i := 1) rfl)) (fun _ h9 => h9) rfl (by decide +kernel) rfl rfl (Nat.le_of_ble_eq_true rfl) dX12_takeSpan_4 (fun H locs hP hD hS => ?_)
  have hP : va_P (dC, dI) vwCl [(oM, .inr (12, [.ref mT, .int zt, .ref mS, .ref mX, .int zp, .int zf, .ref mL, .ref mB, .ref mD, .ref m1, .ref m2, .int zh, .ref mR, .int zr, .ref x1, .ref x2, .ref x3, .int zc, .ref mH, .int zy, .int za, .int zb, .int zs, .int zq, .int zw, .int ze, .ref mY, .int zn, .ref mE, .int zm, .int zl, .ref mW, .int x_1, .ref mO, .int zd, .ref y1, .ref y2, .ref y3, .ref y4, .ref mZ])), (mY, .inl (cI, 2600, .inl eY)), (mB, .inl (cS, 131072, .inl eB)), (mL, .inl (cI, 512, .inl eL)), (mE, .inl (cI, 2600, .inl eE)), (mW, .inl (cI, 300, .inl eW)), (mO, .inl (cI, 300, .inl eO)), (mS, .inl (cI, 21, .inl eS)), (mX, .inl (cI, 6300, .inl eX)), (m1, .inl (cI, 6, .inl e1)), (m2, .inl (cI, 6, .inl e2))] H := hP
  have hD : va_D A [(oM, .inr (12, [.ref mT, .int zt, .ref mS, .ref mX, .int zp, .int zf, .ref mL, .ref mB, .ref mD, .ref m1, .ref m2, .int zh, .ref mR, .int zr, .ref x1, .ref x2, .ref x3, .int zc, .ref mH, .int zy, .int za, .int zb, .int zs, .int zq, .int zw, .int ze, .ref mY, .int zn, .ref mE, .int zm, .int zl, .ref mW, .int x_1, .ref mO, .int zd, .ref y1, .ref y2, .ref y3, .ref y4, .ref mZ])), (mY, .inl (cI, 2600, .inl eY)), (mB, .inl (cS, 131072, .inl eB)), (mL, .inl (cI, 512, .inl eL)), (mE, .inl (cI, 2600, .inl eE)), (mW, .inl (cI, 300, .inl eW)), (mO, .inl (cI, 300, .inl eO)), (mS, .inl (cI, 21, .inl eS)), (mX, .inl (cI, 6300, .inl eX)), (m1, .inl (cI, 6, .inl e1)), (m2, .inl (cI, 6, .inl e2))] := hD
  refine lv_iload_n hx hb dX12_takeSpan_7 rfl (lv_at hl 1 rfl) ?_
  refine lv_istore (lv' := [(4, .int fo), (0, .ref oM), (1, .int fo), (2, .int to_), (3, .int ha)]) hx hb dX12_takeSpan_8 hl (by decide) rfl (fun ls hl => ?_)
  have LOOP_10 : ∀ (k_10 : Nat) (k : Int32) (eWa : Nat → Int32) (H : Heap) (locs : List Loc) (ls : Array Slot), (300 - k.toInt : Int).toNat < k_10 → (0 ≤ k.toInt ∧ k.toInt ≤ 300) → (rg 0 65535 eWa) → (fo.toInt ≤ k.toInt ∧ k.toInt ≤ to_.toInt) → (∀ j : Nat, (j : Int) < k.toInt - fo.toInt → eWa j = eX (fo.toNatClampNeg + j)) → va_P (dC, dI) vwCl [(oM, .inr (12, [.ref mT, .int zt, .ref mS, .ref mX, .int zp, .int zf, .ref mL, .ref mB, .ref mD, .ref m1, .ref m2, .int zh, .ref mR, .int zr, .ref x1, .ref x2, .ref x3, .int zc, .ref mH, .int zy, .int za, .int zb, .int zs, .int zq, .int zw, .int ze, .ref mY, .int zn, .ref mE, .int zm, .int zl, .ref mW, .int x_1, .ref mO, .int zd, .ref y1, .ref y2, .ref y3, .ref y4, .ref mZ])), (mY, .inl (cI, 2600, .inl eY)), (mB, .inl (cS, 131072, .inl eB)), (mL, .inl (cI, 512, .inl eL)), (mE, .inl (cI, 2600, .inl eE)), (mW, .inl (cI, 300, .inl eWa)), (mO, .inl (cI, 300, .inl eO)), (mS, .inl (cI, 21, .inl eS)), (mX, .inl (cI, 6300, .inl eX)), (m1, .inl (cI, 6, .inl e1)), (m2, .inl (cI, 6, .inl e2))] H → va_D A [(oM, .inr (12, [.ref mT, .int zt, .ref mS, .ref mX, .int zp, .int zf, .ref mL, .ref mB, .ref mD, .ref m1, .ref m2, .int zh, .ref mR, .int zr, .ref x1, .ref x2, .ref x3, .int zc, .ref mH, .int zy, .int za, .int zb, .int zs, .int zq, .int zw, .int ze, .ref mY, .int zn, .ref mE, .int zm, .int zl, .ref mW, .int x_1, .ref mO, .int zd, .ref y1, .ref y2, .ref y3, .ref y4, .ref mZ])), (mY, .inl (cI, 2600, .inl eY)), (mB, .inl (cS, 131072, .inl eB)), (mL, .inl (cI, 512, .inl eL)), (mE, .inl (cI, 2600, .inl eE)), (mW, .inl (cI, 300, .inl eWa)), (mO, .inl (cI, 300, .inl eO)), (mS, .inl (cI, 21, .inl eS)), (mX, .inl (cI, 6300, .inl eX)), (m1, .inl (cI, 6, .inl e1)), (m2, .inl (cI, 6, .inl e2))] → va_S A s.heap H locs → lv_has ls 5 [(4, .int k), (0, .ref oM), (1, .int fo), (2, .int to_), (3, .int ha)] → W p l e (headSpec wsX12_takeSpan ({ frames := 5, cells := 0, slots := 0, locals := 120 } : Room)).room s m ([.ref oM, .int fo, .int to_, .int ha] : List Value).toArray below meth c H locs 0 0 (MQ below QQ ([.ref oM, .int fo, .int to_, .int ha] : List Value).toArray s 0 0 A) (F0 m 10 ls []) := by
    intro k_10
    induction k_10 with
    | zero =>
      intro k eWa H locs ls hm_10 g_k g_eWa hkf hcp hP hD hS hl
      exact absurd hm_10 (Nat.not_lt_zero _)
    | succ k_10 ih_10 =>
      intro k eWa H locs ls hm_10 g_k g_eWa hkf hcp hP hD hS hl
      refine lv_iload hx hb dX12_takeSpan_10 (lv_at hl 0 rfl) ?_
      refine lv_iload_n hx hb dX12_takeSpan_12 rfl (lv_at hl 3 rfl) ?_
      refine lv_icmp_ge (tgt := 38) hx hb dX12_takeSpan_13 (by decide) (fun c_2 => ?_) (fun c_2 => ?_)
      · have tc_2 : to_.toInt ≤ k.toInt := v_le c_2
        refine lv_iload_n hx hb dX12_takeSpan_38 rfl (lv_at hl 4 rfl) ?_
        refine lv_iconst (v := (-1)) hx hb dX12_takeSpan_39 (by decide) ?_
        refine lv_icmp_eq (tgt := 62) hx hb dX12_takeSpan_40 (by decide) (fun c_3 => ?_) (fun c_3 => ?_)
        · have tc_3 : ha.toInt = (-1) := v_eq c_3
          refine lv_iconst (v := 1) hx hb dX12_takeSpan_62 (by decide) ?_
          refine lv_goto (tgt := 67) hx hb dX12_takeSpan_63 (by decide) ?_
          have hP9 := hP.sub (ws' := [(oM, .inr (12, [.ref mT, .int zt, .ref mS, .ref mX, .int zp, .int zf, .ref mL, .ref mB, .ref mD, .ref m1, .ref m2, .int zh, .ref mR, .int zr, .ref x1, .ref x2, .ref x3, .int zc, .ref mH, .int zy, .int za, .int zb, .int zs, .int zq, .int zw, .int ze, .ref mY, .int zn, .ref mE, .int zm, .int zl, .ref mW, .int x_1, .ref mO, .int zd, .ref y1, .ref y2, .ref y3, .ref y4, .ref mZ])), (mY, .inl (cI, 2600, .inl eY)), (mB, .inl (cS, 131072, .inl eB)), (mL, .inl (cI, 512, .inl eL)), (mE, .inl (cI, 2600, .inl eE)), (mW, .inl (cI, 300, .inl eWa)), (mO, .inl (cI, 300, .inl eO)), (mS, .inl (cI, 21, .inl eS)), (mX, .inl (cI, 6300, .inl eX)), (m1, .inl (cI, 6, .inl e1)), (m2, .inl (cI, 6, .inl e2))]) [0, 1, 2, 3, 4, 5, 6, 7, 8, 9, 10] rfl
          have hD9 := hD.sub (ws' := [(oM, .inr (12, [.ref mT, .int zt, .ref mS, .ref mX, .int zp, .int zf, .ref mL, .ref mB, .ref mD, .ref m1, .ref m2, .int zh, .ref mR, .int zr, .ref x1, .ref x2, .ref x3, .int zc, .ref mH, .int zy, .int za, .int zb, .int zs, .int zq, .int zw, .int ze, .ref mY, .int zn, .ref mE, .int zm, .int zl, .ref mW, .int x_1, .ref mO, .int zd, .ref y1, .ref y2, .ref y3, .ref y4, .ref mZ])), (mY, .inl (cI, 2600, .inl eY)), (mB, .inl (cS, 131072, .inl eB)), (mL, .inl (cI, 512, .inl eL)), (mE, .inl (cI, 2600, .inl eE)), (mW, .inl (cI, 300, .inl eWa)), (mO, .inl (cI, 300, .inl eO)), (mS, .inl (cI, 21, .inl eS)), (mX, .inl (cI, 6300, .inl eX)), (m1, .inl (cI, 6, .inl e1)), (m2, .inl (cI, 6, .inl e2))]) [0, 1, 2, 3, 4, 5, 6, 7, 8, 9, 10] (by decide) rfl
          rw [hQQ]
          exact W.zret (v := 1) (ty := .boolean) hx hb hr (rfl) (fun t ht hW => ⟨⟨1, 1, rfl, rfl, ⟨zn, eY, zd, zm, zl, eE, x_1, eWa, eO, by rw [ht]; exact hP9, hD9, by omega, g_eY, by omega, g_eE, by omega, g_eWa, g_eO, by decide, ts_as rfl (by omega) (by omega) (fun k9 hk9 => hcp k9 (by omega)) (by omega)⟩⟩, hS.F ht⟩) hS.2.2 dX12_takeSpan_67
        · have tc_3 : ¬ ha.toInt = (-1) := v_ne c_3
          refine lv_aload_n hx hb dX12_takeSpan_43 rfl (lv_at hl 1 rfl) ?_
          refine lv_aload_n hx hb dX12_takeSpan_44 rfl (lv_at hl 1 rfl) ?_
          refine va_get (D := (dC, dI)) (ci := 12) (v := .ref m1) (C := RX12) (T := TX12) (N := 40) hx hb hts in_X12 hown hK hP 0 rfl rfl 9 (by decide) (hts (.fieldLink RX12 30 "TextMenderModel" "harmA" "[I") (List.mem_of_getElem? (i := 4) rfl)) (fun _ h9 => h9) rfl dX12_takeSpan_45 ?_
          refine lv_iload_n hx hb dX12_takeSpan_48 rfl (lv_at hl 4 rfl) ?_
          refine va_iald hx hb hK hP 9 0 rfl rfl (v_in (by omega)) dX12_takeSpan_49 ?_
          refine lv_topi (fun x_4 ex_4 => ?_)
          have tx_4 : 0 ≤ x_4.toInt ∧ x_4.toInt ≤ 5 := rg_at g_e1 ex_4
          refine lv_aload_n hx hb dX12_takeSpan_50 rfl (lv_at hl 1 rfl) ?_
          refine va_get (D := (dC, dI)) (ci := 12) (v := .ref m2) (C := RX12) (T := TX12) (N := 40) hx hb hts in_X12 hown hK hP 0 rfl rfl 10 (by decide) (hts (.fieldLink RX12 33 "TextMenderModel" "harmB" "[I") (List.mem_of_getElem? (i := 5) rfl)) (fun _ h9 => h9) rfl dX12_takeSpan_51 ?_
          refine lv_iload_n hx hb dX12_takeSpan_54 rfl (lv_at hl 4 rfl) ?_
          refine va_iald hx hb hK hP 10 0 rfl rfl (v_in (by omega)) dX12_takeSpan_55 ?_
          refine lv_topi (fun x_5 ex_5 => ?_)
          have tx_5 : 0 ≤ x_5.toInt ∧ x_5.toInt ≤ 5 := rg_at g_e2 ex_5
          have hPc := hP.sub (ws' := [(oM, .inr (12, [.ref mT, .int zt, .ref mS, .ref mX, .int zp, .int zf, .ref mL, .ref mB, .ref mD, .ref m1, .ref m2, .int zh, .ref mR, .int zr, .ref x1, .ref x2, .ref x3, .int zc, .ref mH, .int zy, .int za, .int zb, .int zs, .int zq, .int zw, .int ze, .ref mY, .int zn, .ref mE, .int zm, .int zl, .ref mW, .int x_1, .ref mO, .int zd, .ref y1, .ref y2, .ref y3, .ref y4, .ref mZ])), (mY, .inl (cI, 2600, .inl eY)), (mB, .inl (cS, 131072, .inl eB)), (mL, .inl (cI, 512, .inl eL)), (mE, .inl (cI, 2600, .inl eE)), (mW, .inl (cI, 300, .inl eWa)), (mO, .inl (cI, 300, .inl eO))]) [0, 1, 2, 3, 4, 5, 6] rfl
          have hDc := hD.sub (ws' := [(oM, .inr (12, [.ref mT, .int zt, .ref mS, .ref mX, .int zp, .int zf, .ref mL, .ref mB, .ref mD, .ref m1, .ref m2, .int zh, .ref mR, .int zr, .ref x1, .ref x2, .ref x3, .int zc, .ref mH, .int zy, .int za, .int zb, .int zs, .int zq, .int zw, .int ze, .ref mY, .int zn, .ref mE, .int zm, .int zl, .ref mW, .int x_1, .ref mO, .int zd, .ref y1, .ref y2, .ref y3, .ref y4, .ref mZ])), (mY, .inl (cI, 2600, .inl eY)), (mB, .inl (cS, 131072, .inl eB)), (mL, .inl (cI, 512, .inl eL)), (mE, .inl (cI, 2600, .inl eE)), (mW, .inl (cI, 300, .inl eWa)), (mO, .inl (cI, 300, .inl eO))]) [0, 1, 2, 3, 4, 5, 6] (by decide) rfl
          have hFc := va_free (wc := [(oM, .inr (12, [.ref mT, .int zt, .ref mS, .ref mX, .int zp, .int zf, .ref mL, .ref mB, .ref mD, .ref m1, .ref m2, .int zh, .ref mR, .int zr, .ref x1, .ref x2, .ref x3, .int zc, .ref mH, .int zy, .int za, .int zb, .int zs, .int zq, .int zw, .int ze, .ref mY, .int zn, .ref mE, .int zm, .int zl, .ref mW, .int x_1, .ref mO, .int zd, .ref y1, .ref y2, .ref y3, .ref y4, .ref mZ])), (mY, .inl (cI, 2600, .inl eY)), (mB, .inl (cS, 131072, .inl eB)), (mL, .inl (cI, 512, .inl eL)), (mE, .inl (cI, 2600, .inl eE)), (mW, .inl (cI, 300, .inl eWa)), (mO, .inl (cI, 300, .inl eO))]) hD hS hA [0, 1, 2, 3, 4, 5, 6] rfl
          refine va_calli (va_runV (As := [.int x_4, .int x_5]) (rest := []) ⟨hx, hb, hml, hown, hts⟩ (f_X12_undoes l dC dI cI cS H.size oM mT mS mX mL mB mD m1 m2 mR x1 x2 x3 mH mY mE mW mO y1 y2 y3 y4 mZ zt zp zf zh zr zc zy za zb zs zq zw ze zn zm zl x_1 zd eY eB eL eE eWa eO x_4 x_5 (by omega) (by omega) (by omega) (by omega) (by omega) (by omega) (by omega) (by omega) (by omega) (by omega) (by omega) (by omega) (by omega) (by omega) (g_eY) (g_eB) (g_eL) (g_eE) (g_eWa) (g_eO) (by omega) (by omega) (fun j hj => by rw [hcp j (by omega)]; exact hxl _ (by omega)) (hlb)) (cwV 2 hts gX12_takeSpan_X12_undoes rfl rfl rfl (by decide +kernel) ⟨Nat.le_of_ble_eq_true rfl, Nat.le_of_ble_eq_true rfl⟩) ⟨fun a U g mk q => by obtain ⟨q0, q1, qP, qK, qD⟩ := q; exact ⟨q0, q1, qP, va_K.moved (u := U) (U := U.calling g mk a) (Vm.Alike.refl U.vm) qK, qD⟩, va_recv hK hPc (ci := 12) (q0 := 0) rfl rfl, fun U hU hW => ⟨rfl, by rw [hU], by rw [hU]; exact hPc, va_K.moved hW.alike hK, hDc.weaken (fun _ _ _ _ => trivial)⟩⟩ rfl rfl hl.1 rfl (lv_room (Nat.le_of_ble_eq_true rfl)) dX12_takeSpan_56 ⟨Nat.le_of_ble_eq_true rfl, Nat.le_of_ble_eq_true rfl⟩) hS (fun q _ h => hFc q h) hFc (fun r_6 u t H1 locs ht hvm hw hB hz1 hk1 hS => ?_)
          subst hw
          obtain ⟨zn_6, eY_6, zd_6, zm_6, zl_6, eE_6, zk_6, eW_6, eO_6, hP1, hD1, hf6_0, hf6_1, hf6_2, hf6_3, hf6_4, hf6_5, hf6_6, hf6_7, hf6_8⟩ := hB
          rw [ht] at hP1
          obtain ⟨hP, hD⟩ := va_join (wr := [(mS, .inl (cI, 21, .inl eS)), (mX, .inl (cI, 6300, .inl eX)), (m1, .inl (cI, 6, .inl e1)), (m2, .inl (cI, 6, .inl e2))]) (w1 := [(oM, .inr (12, [.ref mT, .int zt, .ref mS, .ref mX, .int zp, .int zf, .ref mL, .ref mB, .ref mD, .ref m1, .ref m2, .int zh, .ref mR, .int zr, .ref x1, .ref x2, .ref x3, .int zc, .ref mH, .int zy, .int za, .int zb, .int zs, .int zq, .int zw, .int ze, .ref mY, .int zn_6, .ref mE, .int zm_6, .int zl_6, .ref mW, .int zk_6, .ref mO, .int zd_6, .ref y1, .ref y2, .ref y3, .ref y4, .ref mZ])), (mY, .inl (cI, 2600, .inl eY_6)), (mB, .inl (cS, 131072, .inl eB)), (mL, .inl (cI, 512, .inl eL)), (mE, .inl (cI, 2600, .inl eE_6)), (mW, .inl (cI, 300, .inl eW_6)), (mO, .inl (cI, 300, .inl eO_6))]) hP hD [0, 1, 2, 3, 4, 5, 6] [7, 8, 9, 10] rfl rfl (by decide) (by decide) hk1 hFc hP1 hD1
          generalize H1 = H at hP hS ⊢
          have hP : va_P (dC, dI) vwCl [(mS, .inl (cI, 21, .inl eS)), (mX, .inl (cI, 6300, .inl eX)), (m1, .inl (cI, 6, .inl e1)), (m2, .inl (cI, 6, .inl e2)), (oM, .inr (12, [.ref mT, .int zt, .ref mS, .ref mX, .int zp, .int zf, .ref mL, .ref mB, .ref mD, .ref m1, .ref m2, .int zh, .ref mR, .int zr, .ref x1, .ref x2, .ref x3, .int zc, .ref mH, .int zy, .int za, .int zb, .int zs, .int zq, .int zw, .int ze, .ref mY, .int zn_6, .ref mE, .int zm_6, .int zl_6, .ref mW, .int zk_6, .ref mO, .int zd_6, .ref y1, .ref y2, .ref y3, .ref y4, .ref mZ])), (mY, .inl (cI, 2600, .inl eY_6)), (mB, .inl (cS, 131072, .inl eB)), (mL, .inl (cI, 512, .inl eL)), (mE, .inl (cI, 2600, .inl eE_6)), (mW, .inl (cI, 300, .inl eW_6)), (mO, .inl (cI, 300, .inl eO_6))] H := hP
          have hD : va_D A [(mS, .inl (cI, 21, .inl eS)), (mX, .inl (cI, 6300, .inl eX)), (m1, .inl (cI, 6, .inl e1)), (m2, .inl (cI, 6, .inl e2)), (oM, .inr (12, [.ref mT, .int zt, .ref mS, .ref mX, .int zp, .int zf, .ref mL, .ref mB, .ref mD, .ref m1, .ref m2, .int zh, .ref mR, .int zr, .ref x1, .ref x2, .ref x3, .int zc, .ref mH, .int zy, .int za, .int zb, .int zs, .int zq, .int zw, .int ze, .ref mY, .int zn_6, .ref mE, .int zm_6, .int zl_6, .ref mW, .int zk_6, .ref mO, .int zd_6, .ref y1, .ref y2, .ref y3, .ref y4, .ref mZ])), (mY, .inl (cI, 2600, .inl eY_6)), (mB, .inl (cS, 131072, .inl eB)), (mL, .inl (cI, 512, .inl eL)), (mE, .inl (cI, 2600, .inl eE_6)), (mW, .inl (cI, 300, .inl eW_6)), (mO, .inl (cI, 300, .inl eO_6))] := hD
          refine lv_if_eq (tgt := 66) hx hb dX12_takeSpan_59 (by decide) (fun c_7 => ?_) (fun c_7 => ?_)
          · have tc_7 : r_6.toInt = 0 := v_eq c_7
            refine lv_iconst (v := 0) hx hb dX12_takeSpan_66 (by decide) ?_
            have hP9 := hP.sub (ws' := [(oM, .inr (12, [.ref mT, .int zt, .ref mS, .ref mX, .int zp, .int zf, .ref mL, .ref mB, .ref mD, .ref m1, .ref m2, .int zh, .ref mR, .int zr, .ref x1, .ref x2, .ref x3, .int zc, .ref mH, .int zy, .int za, .int zb, .int zs, .int zq, .int zw, .int ze, .ref mY, .int zn_6, .ref mE, .int zm_6, .int zl_6, .ref mW, .int zk_6, .ref mO, .int zd_6, .ref y1, .ref y2, .ref y3, .ref y4, .ref mZ])), (mY, .inl (cI, 2600, .inl eY_6)), (mB, .inl (cS, 131072, .inl eB)), (mL, .inl (cI, 512, .inl eL)), (mE, .inl (cI, 2600, .inl eE_6)), (mW, .inl (cI, 300, .inl eW_6)), (mO, .inl (cI, 300, .inl eO_6)), (mS, .inl (cI, 21, .inl eS)), (mX, .inl (cI, 6300, .inl eX)), (m1, .inl (cI, 6, .inl e1)), (m2, .inl (cI, 6, .inl e2))]) [4, 5, 6, 7, 8, 9, 10, 0, 1, 2, 3] rfl
            have hD9 := hD.sub (ws' := [(oM, .inr (12, [.ref mT, .int zt, .ref mS, .ref mX, .int zp, .int zf, .ref mL, .ref mB, .ref mD, .ref m1, .ref m2, .int zh, .ref mR, .int zr, .ref x1, .ref x2, .ref x3, .int zc, .ref mH, .int zy, .int za, .int zb, .int zs, .int zq, .int zw, .int ze, .ref mY, .int zn_6, .ref mE, .int zm_6, .int zl_6, .ref mW, .int zk_6, .ref mO, .int zd_6, .ref y1, .ref y2, .ref y3, .ref y4, .ref mZ])), (mY, .inl (cI, 2600, .inl eY_6)), (mB, .inl (cS, 131072, .inl eB)), (mL, .inl (cI, 512, .inl eL)), (mE, .inl (cI, 2600, .inl eE_6)), (mW, .inl (cI, 300, .inl eW_6)), (mO, .inl (cI, 300, .inl eO_6)), (mS, .inl (cI, 21, .inl eS)), (mX, .inl (cI, 6300, .inl eX)), (m1, .inl (cI, 6, .inl e1)), (m2, .inl (cI, 6, .inl e2))]) [4, 5, 6, 7, 8, 9, 10, 0, 1, 2, 3] (by decide) rfl
            rw [hQQ]
            exact W.zret (v := 0) (ty := .boolean) hx hb hr (rfl) (fun t ht hW => ⟨⟨0, 0, rfl, rfl, ⟨zn_6, eY_6, zd_6, zm_6, zl_6, eE_6, zk_6, eW_6, eO_6, by rw [ht]; exact hP9, hD9, by omega, hf6_1, by omega, hf6_3, by omega, hf6_5, hf6_6, by decide, ts_un hU (to_ur (h := ha.toNatClampNeg) hf6_8 ex_4 ex_5 rfl) (by have c9 := v_clamp (x := ha) (by omega); omega) (by omega) (fun p9 hp9 => hcp p9 (by omega)) (by omega) (by omega)⟩⟩, hS.F ht⟩) hS.2.2 dX12_takeSpan_67
          · have tc_7 : ¬ r_6.toInt = 0 := v_ne c_7
            refine lv_iconst (v := 1) hx hb dX12_takeSpan_62 (by decide) ?_
            refine lv_goto (tgt := 67) hx hb dX12_takeSpan_63 (by decide) ?_
            have hP9 := hP.sub (ws' := [(oM, .inr (12, [.ref mT, .int zt, .ref mS, .ref mX, .int zp, .int zf, .ref mL, .ref mB, .ref mD, .ref m1, .ref m2, .int zh, .ref mR, .int zr, .ref x1, .ref x2, .ref x3, .int zc, .ref mH, .int zy, .int za, .int zb, .int zs, .int zq, .int zw, .int ze, .ref mY, .int zn_6, .ref mE, .int zm_6, .int zl_6, .ref mW, .int zk_6, .ref mO, .int zd_6, .ref y1, .ref y2, .ref y3, .ref y4, .ref mZ])), (mY, .inl (cI, 2600, .inl eY_6)), (mB, .inl (cS, 131072, .inl eB)), (mL, .inl (cI, 512, .inl eL)), (mE, .inl (cI, 2600, .inl eE_6)), (mW, .inl (cI, 300, .inl eW_6)), (mO, .inl (cI, 300, .inl eO_6)), (mS, .inl (cI, 21, .inl eS)), (mX, .inl (cI, 6300, .inl eX)), (m1, .inl (cI, 6, .inl e1)), (m2, .inl (cI, 6, .inl e2))]) [4, 5, 6, 7, 8, 9, 10, 0, 1, 2, 3] rfl
            have hD9 := hD.sub (ws' := [(oM, .inr (12, [.ref mT, .int zt, .ref mS, .ref mX, .int zp, .int zf, .ref mL, .ref mB, .ref mD, .ref m1, .ref m2, .int zh, .ref mR, .int zr, .ref x1, .ref x2, .ref x3, .int zc, .ref mH, .int zy, .int za, .int zb, .int zs, .int zq, .int zw, .int ze, .ref mY, .int zn_6, .ref mE, .int zm_6, .int zl_6, .ref mW, .int zk_6, .ref mO, .int zd_6, .ref y1, .ref y2, .ref y3, .ref y4, .ref mZ])), (mY, .inl (cI, 2600, .inl eY_6)), (mB, .inl (cS, 131072, .inl eB)), (mL, .inl (cI, 512, .inl eL)), (mE, .inl (cI, 2600, .inl eE_6)), (mW, .inl (cI, 300, .inl eW_6)), (mO, .inl (cI, 300, .inl eO_6)), (mS, .inl (cI, 21, .inl eS)), (mX, .inl (cI, 6300, .inl eX)), (m1, .inl (cI, 6, .inl e1)), (m2, .inl (cI, 6, .inl e2))]) [4, 5, 6, 7, 8, 9, 10, 0, 1, 2, 3] (by decide) rfl
            rw [hQQ]
            exact W.zret (v := 1) (ty := .boolean) hx hb hr (rfl) (fun t ht hW => ⟨⟨1, 1, rfl, rfl, ⟨zn_6, eY_6, zd_6, zm_6, zl_6, eE_6, zk_6, eW_6, eO_6, by rw [ht]; exact hP9, hD9, by omega, hf6_1, by omega, hf6_3, by omega, hf6_5, hf6_6, by decide, ts_un hU (to_ur (h := ha.toNatClampNeg) hf6_8 ex_4 ex_5 rfl) (by have c9 := v_clamp (x := ha) (by omega); omega) (by omega) (fun p9 hp9 => hcp p9 (by omega)) (by omega) (by omega)⟩⟩, hS.F ht⟩) hS.2.2 dX12_takeSpan_67
      · have tc_2 : k.toInt < to_.toInt := v_nle c_2
        refine lv_aload_n hx hb dX12_takeSpan_16 rfl (lv_at hl 1 rfl) ?_
        refine va_get (D := (dC, dI)) (ci := 12) (v := .ref mW) (C := RX12) (T := TX12) (N := 40) hx hb hts in_X12 hown hK hP 0 rfl rfl 31 (by decide) (hts (.fieldLink RX12 64 "TextMenderModel" "work" "[I") (List.mem_of_getElem? (i := 2) rfl)) (fun _ h9 => h9) rfl dX12_takeSpan_17 ?_
        refine lv_iload hx hb dX12_takeSpan_20 (lv_at hl 0 rfl) ?_
        refine lv_iload_n hx hb dX12_takeSpan_22 rfl (lv_at hl 2 rfl) ?_
        refine lv_isub hx hb dX12_takeSpan_23 ?_
        refine lv_topi (fun x_8 ex_8 => ?_)
        have tx_8 : x_8.toInt = k.toInt - fo.toInt := v_sub ex_8 (by show -2147483648 ≤ k.toInt - fo.toInt; omega) (by show k.toInt - fo.toInt < 2147483648; omega)
        refine lv_aload_n hx hb dX12_takeSpan_24 rfl (lv_at hl 1 rfl) ?_
        refine va_get (D := (dC, dI)) (ci := 12) (v := .ref mX) (C := RX12) (T := TX12) (N := 40) hx hb hts in_X12 hown hK hP 0 rfl rfl 3 (by decide) (hts (.fieldLink RX12 16 "TextMenderModel" "texts" "[I") (List.mem_of_getElem? (i := 3) rfl)) (fun _ h9 => h9) rfl dX12_takeSpan_25 ?_
        refine lv_iload hx hb dX12_takeSpan_28 (lv_at hl 0 rfl) ?_
        refine va_iald hx hb hK hP 8 0 rfl rfl (v_in (by omega)) dX12_takeSpan_30 ?_
        refine lv_topi (fun x_9 ex_9 => ?_)
        have tx_9 : 0 ≤ x_9.toInt ∧ x_9.toInt ≤ 65535 := rg_at g_eX ex_9
        refine va_iast hx hb hK hP hD hS 5 0 rfl rfl (v_in (by omega)) dX12_takeSpan_31 (fun H locs hP hD hS => ?_)
        have hP : va_P (dC, dI) vwCl [(oM, .inr (12, [.ref mT, .int zt, .ref mS, .ref mX, .int zp, .int zf, .ref mL, .ref mB, .ref mD, .ref m1, .ref m2, .int zh, .ref mR, .int zr, .ref x1, .ref x2, .ref x3, .int zc, .ref mH, .int zy, .int za, .int zb, .int zs, .int zq, .int zw, .int ze, .ref mY, .int zn, .ref mE, .int zm, .int zl, .ref mW, .int x_1, .ref mO, .int zd, .ref y1, .ref y2, .ref y3, .ref y4, .ref mZ])), (mY, .inl (cI, 2600, .inl eY)), (mB, .inl (cS, 131072, .inl eB)), (mL, .inl (cI, 512, .inl eL)), (mE, .inl (cI, 2600, .inl eE)), (mW, .inl (cI, 300, .inl (upd eWa (x_8 : Int32).toNatClampNeg x_9))), (mO, .inl (cI, 300, .inl eO)), (mS, .inl (cI, 21, .inl eS)), (mX, .inl (cI, 6300, .inl eX)), (m1, .inl (cI, 6, .inl e1)), (m2, .inl (cI, 6, .inl e2))] H := hP
        have hD : va_D A [(oM, .inr (12, [.ref mT, .int zt, .ref mS, .ref mX, .int zp, .int zf, .ref mL, .ref mB, .ref mD, .ref m1, .ref m2, .int zh, .ref mR, .int zr, .ref x1, .ref x2, .ref x3, .int zc, .ref mH, .int zy, .int za, .int zb, .int zs, .int zq, .int zw, .int ze, .ref mY, .int zn, .ref mE, .int zm, .int zl, .ref mW, .int x_1, .ref mO, .int zd, .ref y1, .ref y2, .ref y3, .ref y4, .ref mZ])), (mY, .inl (cI, 2600, .inl eY)), (mB, .inl (cS, 131072, .inl eB)), (mL, .inl (cI, 512, .inl eL)), (mE, .inl (cI, 2600, .inl eE)), (mW, .inl (cI, 300, .inl (upd eWa (x_8 : Int32).toNatClampNeg x_9))), (mO, .inl (cI, 300, .inl eO)), (mS, .inl (cI, 21, .inl eS)), (mX, .inl (cI, 6300, .inl eX)), (m1, .inl (cI, 6, .inl e1)), (m2, .inl (cI, 6, .inl e2))] := hD
        obtain ⟨f_10, ef_10⟩ : ∃ g : Nat → Int32, g = upd eWa (x_8 : Int32).toNatClampNeg x_9 := ⟨_, rfl⟩
        rw [← ef_10] at hP hD
        have g_f10 : rg 0 65535 f_10 := rg_upd ef_10 g_eWa (by omega)
        obtain ⟨x_11, ex_11⟩ : ∃ y : Int32, y = k + 1 := ⟨_, rfl⟩
        have tx_11 : x_11.toInt = k.toInt + 1 := v_add ex_11 (by show -2147483648 ≤ k.toInt + 1; omega) (by show k.toInt + 1 < 2147483648; omega)
        refine lv_iinc (v := x_11) (lv' := [(4, .int x_11), (0, .ref oM), (1, .int fo), (2, .int to_), (3, .int ha)]) hx hb dX12_takeSpan_32 hl (k := 0) rfl (by rw [ex_11]; rfl) (by decide) rfl (fun ls hl => ?_)
        refine lv_goto (tgt := 10) hx hb dX12_takeSpan_35 (by decide) ?_
        exact ih_10 x_11 f_10 _ _ _ (by have hm9 := hm_10; show ((300 - x_11.toInt : Int)).toNat < k_10; omega) (by show 0 ≤ x_11.toInt ∧ x_11.toInt ≤ 300; omega) (g_f10) (by show fo.toInt ≤ x_11.toInt ∧ x_11.toInt ≤ to_.toInt; omega) (tsp_s hcp (by omega) ex_9 ef_10 (by omega) (by omega) (by omega)) hP hD hS (lv_sub hl [0, 1, 2, 3, 4] rfl)
  exact LOOP_10 _ fo eW _ _ _ (Nat.lt_succ_self _) (by show 0 ≤ fo.toInt ∧ fo.toInt ≤ 300; omega) (g_eW) (by show fo.toInt ≤ fo.toInt ∧ fo.toInt ≤ to_.toInt; omega) (fun j hj => by omega) hP hD hS (lv_sub hl [0, 1, 2, 3, 4] rfl)
