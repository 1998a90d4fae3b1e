/-! 5x.rows -/
section
/-! rows that row() tells, on both sides -/
theorem nF_lt {R : Nat → Int32} {p P : Nat} (hp : p < P) (hr : ¬ R p = -1) : nF R p < nF R P := by
  have a := nF_m R (p := p + 1) P (by omega)
  rw [nF_y hr] at a
  omega
theorem nF_sur {R : Nat → Int32} : ∀ (P q : Nat), q < nF R P → ∃ p, p < P ∧ ¬ R p = -1 ∧ nF R p = q
  | 0, q, h => absurd h (Nat.not_lt_zero q)
  | P + 1, q, h => by
    by_cases w : R P = -1
    · rw [nF_n w] at h
      obtain ⟨p, h1, h2⟩ := nF_sur (R := R) P q h
      exact ⟨p, by omega, h2⟩
    · rw [nF_y w] at h
      by_cases e : q = nF R P
      · exact ⟨P, by omega, w, e.symm⟩
      · obtain ⟨p, h1, h2⟩ := nF_sur (R := R) P q (by omega)
        exact ⟨p, by omega, h2⟩
def KFD (R1 R2 R3 T4 T5 T6 : Nat → Int32) (P : Nat) (t : Int) : Prop := t = nF R1 P ∧ ∀ p, p < P → ¬ R1 p = -1 → T4 (nF R1 p) = R1 p ∧ T5 (nF R1 p) = R2 p ∧ ∀ k, k < 3 → T6 (3 * nF R1 p + k) = R3 (3 * p + k)
def CP3 (t p k : Int) (T6 T R3 : Nat → Int32) : Prop := (∀ j : Nat, (j : Int) < k → T (3 * t.toNat + j) = R3 (3 * p.toNat + j)) ∧ ∀ j : Nat, (j : Int) < 3 * t → T j = T6 j
theorem CP3_0 {t p k : Int} {T R3 : Nat → Int32} (h : k = 0) : CP3 t p k T T R3 := ⟨fun j hj => by omega, fun _ _ => rfl⟩
theorem CP3_s {t p k k' a c x : Int32} {T6 T T' R3 : Nat → Int32} (h : CP3 t.toInt p.toInt k.toInt T6 T R3) (ht : 0 ≤ t.toInt) (hp : 0 ≤ p.toInt) (hk : 0 ≤ k.toInt) (ea : a.toInt = 3 * t.toInt + k.toInt) (ec : c.toInt = 3 * p.toInt + k.toInt) (ex : x = R3 c.toNatClampNeg) (eT : T' = upd T a.toNatClampNeg x) (hk' : k'.toInt = k.toInt + 1) : CP3 t.toInt p.toInt k'.toInt T6 T' R3 := by
  have ca := v_clamp (x := a) (by omega)
  have cc := v_clamp (x := c) (by omega)
  refine ⟨fun j hj => ?_, fun j hj => ?_⟩
  · by_cases z : (j : Int) = k.toInt
    · have e1 : 3 * t.toInt.toNat + j = a.toNatClampNeg := by omega
      have e2 : 3 * p.toInt.toNat + j = c.toNatClampNeg := by omega
      rw [e1, e2, eT, pk_us, ex]
    · rw [eT, pk_un (by omega)]; exact h.1 j (by omega)
  · rw [eT, pk_un (by omega)]; exact h.2 j hj
theorem KFD_0 {R1 R2 R3 T4 T5 T6 : Nat → Int32} {P : Nat} {t : Int} (hP : P = 0) (ht : t = 0) : KFD R1 R2 R3 T4 T5 T6 P t := by
  subst hP
  exact ⟨by rw [ht]; rfl, fun p hp => absurd hp (Nat.not_lt_zero p)⟩
theorem KFD_n {R1 R2 R3 T4 T5 T6 : Nat → Int32} {P P' : Nat} {t : Int} {x : Int32} (h : KFD R1 R2 R3 T4 T5 T6 P t) (ex : x = R1 P) (hx : x = -1) (hP : P' = P + 1) : KFD R1 R2 R3 T4 T5 T6 P' t := by
  subst hP
  have hR : R1 P = -1 := by rw [← ex]; exact hx
  refine ⟨by rw [nF_n hR]; exact h.1, fun p hp hr => ?_⟩
  by_cases e : p = P
  · rw [e] at hr; exact absurd hR hr
  · exact h.2 p (by omega) hr
theorem KFD_y {R1 R2 R3 T4 T5 T6 T4' T5' T6' : Nat → Int32} {P P' : Nat} {t t' pl x y : Int32} {k : Int} (h : KFD R1 R2 R3 T4 T5 T6 P t.toInt) (hR : ¬ R1 P = -1) (ex : x = R1 P) (ey : y = R2 P) (e4 : T4' = upd T4 t.toNatClampNeg x) (e5 : T5' = upd T5 t.toNatClampNeg y) (h6 : CP3 t.toInt pl.toInt k T6 T6' R3) (hk : 3 ≤ k) (hpl : pl.toInt = P) (h0 : 0 ≤ t.toInt) (hP : P' = P + 1) (ht : t'.toInt = t.toInt + 1) : KFD R1 R2 R3 T4' T5' T6' P' t'.toInt := by
  subst hP
  have ct := v_clamp h0
  have et : t.toNatClampNeg = nF R1 P := by have := h.1; omega
  have et2 : t.toInt.toNat = nF R1 P := by have := h.1; omega
  refine ⟨by rw [nF_y hR]; have := h.1; omega, fun p hp hr => ?_⟩
  by_cases e : p = P
  · subst e
    refine ⟨by rw [e4, et, pk_us, ex], by rw [e5, et, pk_us, ey], fun j hj => ?_⟩
    have q := h6.1 j (by omega)
    rw [et2, show pl.toInt.toNat = p by omega] at q
    exact q
  · have lt := nF_lt (R := R1) (p := p) (P := P) (by omega) hr
    obtain ⟨a1, a2, a3⟩ := h.2 p (by omega) hr
    refine ⟨by rw [e4, pk_un (by omega)]; exact a1, by rw [e5, pk_un (by omega)]; exact a2, fun j hj => ?_⟩
    rw [h6.2 (3 * nF R1 p + j) (by omega)]
    exact a3 j hj
theorem KFD_e {R1 R2 R3 T4 T5 T6 : Nat → Int32} {P P' : Nat} {t : Int} (h : KFD R1 R2 R3 T4 T5 T6 P t) (e : P = P') : KFD R1 R2 R3 T4 T5 T6 P' t := by rw [← e]; exact h
/-- how many harms a row has, by its second and third -/
def cnt3 (a b : Int32) : Int := if a = -1 then 1 else if b = -1 then 2 else 3
theorem c3_1 {x a b : Int32} {T : Nat → Int32} {N : Nat} (ex : x = T a.toNatClampNeg) (ha : a.toInt = (N : Int)) (hx : x = -1) : (1 : Int32).toInt = cnt3 (T N) b := by
  unfold cnt3
  rw [← ix_eq ha, ← ex, if_pos hx]; rfl
theorem c3_2 {x a y b : Int32} {T : Nat → Int32} {N M : Nat} (ex : x = T a.toNatClampNeg) (ha : a.toInt = (N : Int)) (hx : ¬ x = -1) (ey : y = T b.toNatClampNeg) (hb : b.toInt = (M : Int)) (hy : y = -1) : (2 : Int32).toInt = cnt3 (T N) (T M) := by
  unfold cnt3
  rw [← ix_eq ha, ← ex, ← ix_eq hb, ← ey, if_neg hx, if_pos hy]; rfl
theorem c3_3 {x a y b : Int32} {T : Nat → Int32} {N M : Nat} (ex : x = T a.toNatClampNeg) (ha : a.toInt = (N : Int)) (hx : ¬ x = -1) (ey : y = T b.toNatClampNeg) (hb : b.toInt = (M : Int)) (hy : ¬ y = -1) : (3 : Int32).toInt = cnt3 (T N) (T M) := by
  unfold cnt3
  rw [← ix_eq ha, ← ex, ← ix_eq hb, ← ey, if_neg hx, if_neg hy]; rfl
def RWE (R1 R2 R3 eR : Nat → Int32) (p q : Nat) : Prop := (eR (6 * q)).toInt = cnt3 (R3 (3 * p + 1)) (R3 (3 * p + 2)) ∧ (∀ k, k < 3 → eR (6 * q + 1 + k) = R3 (3 * p + k)) ∧ eR (6 * q + 4) = R1 p ∧ eR (6 * q + 5) = R2 p
def RWT (R1 R2 R3 eR : Nat → Int32) (P : Nat) (t : Int) : Prop := t = nF R1 P ∧ ∀ p, p < P → ¬ R1 p = -1 → RWE R1 R2 R3 eR p (nF R1 p)
theorem RWT_0 {R1 R2 R3 eR : Nat → Int32} {P : Nat} {t : Int} (hP : P = 0) (ht : t = 0) : RWT R1 R2 R3 eR P t := by
  subst hP
  exact ⟨by rw [ht]; rfl, fun p hp => absurd hp (Nat.not_lt_zero p)⟩
theorem RWT_e {R1 R2 R3 eR : Nat → Int32} {P P' : Nat} {t : Int} (h : RWT R1 R2 R3 eR P t) (e : P = P') : RWT R1 R2 R3 eR P' t := by rw [← e]; exact h
theorem RWT_n {R1 R2 R3 eR : Nat → Int32} {P P' : Nat} {t : Int} (h : RWT R1 R2 R3 eR P t) (hR : R1 P = -1) (hP : P' = P + 1) : RWT R1 R2 R3 eR P' t := by
  subst hP
  refine ⟨by rw [nF_n hR]; exact h.1, fun p hp hr => ?_⟩
  by_cases e : p = P
  · rw [e] at hr; exact absurd hR hr
  · exact h.2 p (by omega) hr
/-- the harms' numbers go into the row -/
def CPR (z k code : Nat) (t j : Int) (g g' : Nat → Int32) : Prop := (∀ i : Nat, (i : Int) < j → (g' (6 * t.toNat + 1 + i)).toInt = nmz z k code i) ∧ ∀ i : Nat, (i : Int) ≤ 6 * t → g' i = g i
theorem CPR_0 {z k code : Nat} {t j : Int} {g : Nat → Int32} (h : j = 0) : CPR z k code t j g g := ⟨fun i hi => by omega, fun _ _ => rfl⟩
theorem CPR_s {z k code : Nat} {t j j' a v : Int32} {g g1 g2 : Nat → Int32} (h : CPR z k code t.toInt j.toInt g g1) (ht : 0 ≤ t.toInt) (hj : 0 ≤ j.toInt) (ea : a.toInt = 6 * t.toInt + 1 + j.toInt) (hv : v.toInt = nmz z k code j.toNatClampNeg) (eg : g2 = upd g1 a.toNatClampNeg v) (hj' : j'.toInt = j.toInt + 1) : CPR z k code t.toInt j'.toInt g g2 := by
  have ca := v_clamp (x := a) (by omega)
  have cj := v_clamp hj
  refine ⟨fun i hi => ?_, fun i hi => ?_⟩
  · by_cases w : i = j.toNatClampNeg
    · have e1 : 6 * t.toInt.toNat + 1 + i = a.toNatClampNeg := by omega
      rw [e1, eg, pk_us, w]; exact hv
    · rw [eg, pk_un (by omega)]; exact h.1 i (by omega)
  · rw [eg, pk_un (by omega)]; exact h.2 i hi
theorem nm_out {z k code j : Nat} (h : k ≤ j) : nmz z k code j = -1 := if_pos h
theorem nm_in {z k code j : Nat} (hk : k ≤ 3) (hj : j < k) : nmz z k code j = ((code / rpz z (k - 1 - j) % z : Nat) : Int) := by
  unfold nmz
  rw [if_neg (by omega)]
  by_cases a : j + 1 = k
  · rw [if_pos a, show k - 1 - j = 0 by omega]
    show _ = ((code / 1 % z : Nat) : Int)
    rw [Nat.div_one]
  · rw [if_neg a]
    by_cases b : j + 2 = k
    · rw [if_pos b, show k - 1 - j = 1 by omega]; rfl
    · rw [if_neg b, show k - 1 - j = 2 by omega, Nat.div_div_eq_div_mul]; rfl
theorem nm_v {v d pw zh co my jj ex : Int32} {z : Nat} (hz : z = zh.toNatClampNeg) (hd : d = co / pw) (hv : v = d - d / zh * zh) (hp : pw.toInt = rpz zh.toNatClampNeg ex.toNatClampNeg) (hpos : 1 ≤ pw.toInt) (hzh : 1 ≤ zh.toInt) (hco : 0 ≤ co.toInt) (hm : 0 ≤ my.toInt ∧ my.toInt ≤ 3) (hj : 0 ≤ jj.toInt ∧ jj.toInt < my.toInt) (he : ex.toInt = my.toInt - 1 - jj.toInt) : v.toInt = nmz z my.toNatClampNeg co.toNatClampNeg jj.toNatClampNeg := by
  subst hz
  have hd0 := (v_divr hd hco hpos).1
  have hv0 := (v_remr hv hd0 hzh).1
  have cm := v_clamp hm.1
  have cj := v_clamp hj.1
  have cv := v_clamp hv0
  have q1 := dv_n hd hco hpos
  have q2 := md_n hv hd0 hzh
  have q3 : pw.toNatClampNeg = rpz zh.toNatClampNeg ex.toNatClampNeg := ix_eq hp
  have q4 : ex.toNatClampNeg = my.toNatClampNeg - 1 - jj.toNatClampNeg := ix_eq (by omega)
  rw [nm_in (by omega) (by omega), ← q4, ← q3, ← q1, ← q2]
  exact cv.symm
theorem RWT_y {U : Nat → Nat → (Nat → Int32) → Nat → (Nat → Int32) → Prop} (hU : okU U) {T : Int32 → Int32 → Int32} {z n k code P P' : Nat} {f f' : Nat → Int32} {nn m : Int} {r l t t' my i0 i4 i5 v4 : Int32} {R1 R2 R3 eR g0 g1 g2 g3 : Nat → Int32} {kk : Int} (hR : rGE U T z n f nn R1 R2 R3) (em : m.toNat = n) (hn : n ≤ 300) (hf : prg n 0 65535 f) (hb : F_bd U (digs z k code) r l f' m f) (hr : ¬ r.toInt = 0) (k1 : 1 ≤ k) (k2 : k ≤ 3) (k4 : (k : Int) ≤ nn) (hc : code < rpz z k) (h : RWT R1 R2 R3 eR P t.toInt) (hP : P = roff z k + code) (hP' : P' = P + 1) (ht0 : 0 ≤ t.toInt) (ht : t'.toInt = t.toInt + 1)
    (e0 : g0 = upd eR i0.toNatClampNeg my) (hi0 : i0.toInt = 6 * t.toInt) (hmy : my.toInt = k) (hcp : CPR z k code t.toInt kk g0 g1) (hkk : 3 ≤ kk) (e4 : g2 = upd g1 i4.toNatClampNeg v4) (hi4 : i4.toInt = 6 * t.toInt + 4) (hv4 : v4.toInt = cT T l.toInt f') (e5 : g3 = upd g2 i5.toNatClampNeg l) (hi5 : i5.toInt = 6 * t.toInt + 5) : RWT R1 R2 R3 g3 P' t'.toInt := by
  subst hP'
  have c0 := v_clamp (x := i0) (by omega)
  have c4 := v_clamp (x := i4) (by omega)
  have c5 := v_clamp (x := i5) (by omega)
  unfold F_bd at hb
  rw [em] at hb
  rcases hb with ⟨b1, c', b2, b3⟩ | ⟨b1, _⟩
  · obtain ⟨y1, y2, y3, y4, y5, y6, y7⟩ := ge_y hU hR hn hf k1 k2 k4 hc b3
    rw [← hP] at y1 y2 y3 y4 y5 y6 y7
    have et : t.toInt.toNat = nF R1 P := by have := h.1; omega
    refine ⟨by rw [nF_y y2]; have := h.1; omega, fun p hp hr => ?_⟩
    by_cases e : p = P
    · subst e
      have n1 : nmz z k code 1 = -1 ∨ (0 ≤ nmz z k code 1 ∧ 2 ≤ k) := by
        by_cases w : k ≤ 1
        · exact Or.inl (nm_out w)
        · refine Or.inr ⟨?_, by omega⟩
          rw [nm_in k2 (by omega)]; omega
      have n2 : nmz z k code 2 = -1 ∨ (0 ≤ nmz z k code 2 ∧ 3 ≤ k) := by
        by_cases w : k ≤ 2
        · exact Or.inl (nm_out w)
        · refine Or.inr ⟨?_, by omega⟩
          rw [nm_in k2 (by omega)]; omega
      have m1 : (-1 : Int32).toInt = -1 := rfl
      have ein : ∀ j, j < 3 → g3 (6 * nF R1 p + 1 + j) = g1 (6 * nF R1 p + 1 + j) := fun j hj => by
        rw [e5, pk_un (by omega), e4, pk_un (by omega)]
      have eq0 : g3 (6 * nF R1 p) = my := by
        rw [e5, pk_un (by omega), e4, pk_un (by omega), hcp.2 (6 * nF R1 p) (by omega), e0, show 6 * nF R1 p = i0.toNatClampNeg by omega, pk_us]
      refine ⟨?_, fun j hj => ?_, ?_, ?_⟩
      · rw [eq0, hmy]
        unfold cnt3
        by_cases w : k ≤ 1
        · rw [if_pos (v_inj (by rw [y5, nm_out w]; rfl))]; omega
        · rw [if_neg (fun z9 => by have q9 : 0 ≤ nmz z k code 1 := (by rw [nm_in k2 (by omega)]; omega); rw [z9] at y5; omega)]
          by_cases w2 : k ≤ 2
          · rw [if_pos (v_inj (by rw [y6, nm_out w2]; rfl))]; omega
          · rw [if_neg (fun z9 => by have q9 : 0 ≤ nmz z k code 2 := (by rw [nm_in k2 (by omega)]; omega); rw [z9] at y6; omega)]; omega
      · rw [ein j hj]
        have q := hcp.1 j (by omega)
        rw [et] at q
        have j3 : j = 0 ∨ j = 1 ∨ j = 2 := by omega
        rcases j3 with w | w | w <;> subst w
        · exact v_inj (q.trans y4.symm)
        · exact v_inj (q.trans y5.symm)
        · exact v_inj (q.trans y6.symm)
      · rw [e5, pk_un (by omega), e4, show 6 * nF R1 p + 4 = i4.toNatClampNeg by omega, pk_us]
        exact v_inj (by rw [hv4, b2, y1])
      · rw [e5, show 6 * nF R1 p + 5 = i5.toNatClampNeg by omega, pk_us]
        exact v_inj (by rw [b2, y3])
    · have lt := nF_lt (R := R1) (p := p) (P := P) (by omega) hr
      have old : ∀ i : Nat, (i : Int) < 6 * t.toInt → g3 i = eR i := fun i hi => by
        rw [e5, pk_un (by omega), e4, pk_un (by omega), hcp.2 i (by omega), e0, pk_un (by omega)]
      obtain ⟨a1, a2, a3, a4⟩ := h.2 p (by omega) hr
      refine ⟨by rw [old _ (by omega)]; exact a1, fun j hj => by rw [old _ (by omega)]; exact a2 j hj, by rw [old _ (by omega)]; exact a3, by rw [old _ (by omega)]; exact a4⟩
  · exact absurd (by rw [b1]; rfl) hr
theorem RWT_end {U : Nat → Nat → (Nat → Int32) → Nat → (Nat → Int32) → Prop} {T : Int32 → Int32 → Int32} {z n P N : Nat} {f : Nat → Int32} {nn t : Int} {R1 R2 R3 eR : Nat → Int32} (h : rGE U T z n f nn R1 R2 R3) (hz : z ≤ 6) (hN : (N : Int) = nn) (hN3 : N ≤ 3) (hP : P = roff z (N + 1)) (hw : RWT R1 R2 R3 eR P t) : RWT R1 R2 R3 eR 258 t := by
  have m := roff_m (z := z) (k := N + 1) (k' := 4) (by omega) (by omega) (by omega)
  have o := roff_4 hz
  have en := nF_z (R := R1) (p := P) 258 (by omega) (fun j h1 h2 => ge_end h hN hN3 hP h1 h2)
  refine ⟨by rw [en]; exact hw.1, fun p hp hr => ?_⟩
  by_cases w : p < P
  · exact hw.2 p w hr
  · exact absurd (ge_end h hN hN3 hP (by omega) hp) hr
def F_rwC (n r l l' : Int32) (G : Prop) (R1 R2 R3 T4 T4' T5 T5' T6 T6' : Nat → Int32) : Prop := ((1 ≤ n.toInt ∧ n.toInt ≤ 3) ∧ G ∧ KFD R1 R2 R3 T4' T5' T6' 258 l'.toInt ∧ r.toInt = l'.toInt) ∨ (¬ (1 ≤ n.toInt ∧ n.toInt ≤ 3) ∧ r.toInt = -1 ∧ l' = l ∧ T4' = T4 ∧ T5' = T5 ∧ T6' = T6)
def F_rwR (n r l l' : Int32) (R1 R2 R3 eR eR' : Nat → Int32) : Prop := ((1 ≤ n.toInt ∧ n.toInt ≤ 3) ∧ RWT R1 R2 R3 eR' 258 l'.toInt ∧ r.toInt = l'.toInt) ∨ (¬ (1 ≤ n.toInt ∧ n.toInt ≤ 3) ∧ r.toInt = -1 ∧ l' = l ∧ eR' = eR)
/-- what row() tells is alike -/
def RWR (l z : Int32) (T4 T5 T6 eR : Nat → Int32) : Prop := l.toInt = z.toInt ∧ ∀ q : Nat, (q : Int) < l.toInt → (eR (6 * q)).toInt = cnt3 (T6 (3 * q + 1)) (T6 (3 * q + 2)) ∧ (∀ k, k < 3 → eR (6 * q + 1 + k) = T6 (3 * q + k)) ∧ eR (6 * q + 4) = T4 q ∧ eR (6 * q + 5) = T5 q
theorem RWR_0 {T4 T5 T6 eR : Nat → Int32} : RWR 0 0 T4 T5 T6 eR := ⟨rfl, fun q hq => by
  have z : (0 : Int32).toInt = 0 := rfl
  omega⟩
theorem rw_rel {l z : Int32} {R1 R2 R3 T4 T5 T6 eR : Nat → Int32} (h : KFD R1 R2 R3 T4 T5 T6 258 l.toInt) (h' : RWT R1 R2 R3 eR 258 z.toInt) : RWR l z T4 T5 T6 eR := by
  have e1 := h.1
  have e2 := h'.1
  refine ⟨by omega, fun q hq => ?_⟩
  obtain ⟨p, p1, p2, p3⟩ := nF_sur (R := R1) 258 q (by omega)
  obtain ⟨a1, a2, a3⟩ := h.2 p p1 p2
  obtain ⟨b1, b2, b3, b4⟩ := h'.2 p p1 p2
  rw [p3] at a1 a2 a3 b1 b2 b3 b4
  refine ⟨by rw [b1, a3 1 (by omega), a3 2 (by omega)], fun k hk => by rw [b2 k hk, a3 k hk], by rw [b3, a1], by rw [b4, a2]⟩
theorem e_rw {r q n lR lR' zr zr' lH zh zc lL l4 l5 : Int32} {R1 R2 R3 T4 T4' T5 T5' T6 T6' eR eR' fL eS eX fH1 fH2 e1 e2 fK1 fK2 ec1 ec2 ec3 f41 f42 f43 f51 f52 f53 eL eB eD : Nat → Int32} (R4 : TR 0 l4 f41 f42 f43 eL eB eD) (R5 : TR 1 l5 f51 f52 f53 eL eB eD) (gB : rg (-1) 255 eB) (gL : rg (-1) 65535 eL) (hH : lH.toInt = zh.toInt) (h0H : 0 ≤ lH.toInt) (hHe : eqP lH.toInt fH1 e1 fH2 e2) (hCV : CVR zc.toInt fK1 fK2 ec1 ec2 ec3) (hT : TXR lL fL eS eX) (hl3 : lL.toInt ≤ 300)
    (h : F_rwC n r lR lR' (rGE (UC fH1 fH2 f41 f42 f43 f51 f52 f53) (tcC fK1 fK2) lH.toNatClampNeg lL.toInt.toNat fL n.toInt R1 R2 R3) R1 R2 R3 T4 T4' T5 T5' T6 T6')
    (h' : ∀ R1 R2 R3 : Nat → Int32, (1 ≤ n.toInt ∧ n.toInt ≤ 3 → rGE (UR e1 e2 eL eB) (tcR zc.toInt ec1 ec2 ec3) zh.toNatClampNeg (eS 0).toInt.toNat eX n.toInt R1 R2 R3) → F_rwR n q zr zr' R1 R2 R3 eR eR') : r = q ∧ (RWR lR zr T4 T5 T6 eR → RWR lR' zr' T4' T5' T6' eR') := by
  have eH : lH = zh := v_inj hH
  subst eH
  have cH := v_clamp h0H
  have eN : (eS 0).toInt.toNat = lL.toInt.toNat := by rw [hT.1]
  have hf : prg (lL.toInt.toNat : Nat) 0 65535 fL := fun j hj => TX_p hT j (by omega)
  have hfe : ∀ i, i < lL.toInt.toNat → fL i = eX i := fun i hi => TX_e hT i (by omega)
  have hU := okU_C (H1 := fH1) (H2 := fH2) (okB_cl R4 R5 gB) (TR_r R4 gL) (TR_r R5 gL)
  have hV := okU_R (e1 := e1) (e2 := e2) gB gL
  have he : ∀ h, h < lH.toNatClampNeg → ∀ (n c : Nat) (f f' : Nat → Int32), prg n 0 65535 f → (UC fH1 fH2 f41 f42 f43 f51 f52 f53 h n f c f' ↔ UR e1 e2 eL eB h n f c f') := fun h hh n c f f' hp => UCR R4 R5 gB (hHe h (by omega)).1 (hHe h (by omega)).2 hp
  rcases h with ⟨g, a1, a2, a3⟩ | ⟨g, a1, a2, a3, a4, a5⟩
  · rcases h' R1 R2 R3 (fun _ => by rw [eN]; exact ge_iff hU hV (by omega) hf hfe he hCV a1) with ⟨_, b1, b2⟩ | ⟨w, _⟩
    · have w := rw_rel a2 b1
      exact ⟨v_inj (by rw [a3, b2]; exact w.1), fun _ => w⟩
    · exact absurd g w
  · rcases h' R1 R2 R3 (fun w => absurd w g) with ⟨w, _⟩ | ⟨_, b1, b2, b3⟩
    · exact absurd w g
    · refine ⟨v_inj (by rw [a1, b1]), fun w => ?_⟩
      rw [a2, a3, a4, a5, b2, b3]; exact w
def F_roC (r i wh l : Int32) (T4 T5 T6 : Nat → Int32) : Prop := ((0 ≤ i.toInt ∧ i.toInt < l.toInt) ∧ ((wh.toInt = 0 ∧ r.toInt = cnt3 (T6 (3 * i.toNatClampNeg + 1)) (T6 (3 * i.toNatClampNeg + 2))) ∨ (∃ k : Nat, k < 3 ∧ wh.toInt = 1 + k ∧ r = T6 (3 * i.toNatClampNeg + k)) ∨ (wh.toInt = 4 ∧ r = T4 i.toNatClampNeg) ∨ (wh.toInt = 5 ∧ r = T5 i.toNatClampNeg))) ∨ (¬ (0 ≤ i.toInt ∧ i.toInt < l.toInt ∧ 0 ≤ wh.toInt ∧ wh.toInt < 6) ∧ r.toInt = -1)
def F_roR (r i wh z : Int32) (eR : Nat → Int32) : Prop := ((0 ≤ i.toInt ∧ i.toInt < z.toInt ∧ 0 ≤ wh.toInt ∧ wh.toInt < 6) ∧ r = eR (6 * i.toNatClampNeg + wh.toNatClampNeg)) ∨ (¬ (0 ≤ i.toInt ∧ i.toInt < z.toInt ∧ 0 ≤ wh.toInt ∧ wh.toInt < 6) ∧ r.toInt = -1)
theorem e_ro {r q i wh l z : Int32} {T4 T5 T6 eR : Nat → Int32} (hw : RWR l z T4 T5 T6 eR) (h : F_roC r i wh l T4 T5 T6) (h' : F_roR q i wh z eR) : r = q := by
  obtain ⟨w1, w2⟩ := hw
  rcases h with ⟨a1, a2⟩ | ⟨a1, a2⟩ <;> rcases h' with ⟨b1, b2⟩ | ⟨b1, b2⟩
  · have ci := v_clamp a1.1
    have cw := v_clamp b1.2.2.1
    obtain ⟨d1, d2, d3, d4⟩ := w2 i.toNatClampNeg (by omega)
    rcases a2 with ⟨c1, c2⟩ | ⟨k, c0, c1, c2⟩ | ⟨c1, c2⟩ | ⟨c1, c2⟩
    · rw [show wh.toNatClampNeg = 0 by omega, Nat.add_zero] at b2
      exact v_inj (by rw [c2, b2, d1])
    · rw [show 6 * i.toNatClampNeg + wh.toNatClampNeg = 6 * i.toNatClampNeg + 1 + k by omega] at b2
      rw [c2, b2, d2 k c0]
    · rw [show wh.toNatClampNeg = 4 by omega] at b2
      rw [c2, b2, d3]
    · rw [show wh.toNatClampNeg = 5 by omega] at b2
      rw [c2, b2, d4]
  · refine absurd ?_ b1
    rcases a2 with ⟨c1, c2⟩ | ⟨k, c0, c1, c2⟩ | ⟨c1, c2⟩ | ⟨c1, c2⟩ <;> omega
  · refine absurd ?_ a1
    omega
  · exact v_inj (a2.trans b2.symm)

set_option maxHeartbeats 40000000 in
set_option maxRecDepth 100000 in
theorem f_X9_keepFound (l : Launch) (dC : Nat → ClassId) (dI : Nat → Nat → Nat) (cI cS : ClassId) (sz : Nat) (oR : Nat) (oH : Nat) (oK : Nat) (n1 : Nat) (n2 : Nat) (n3 : Nat) (r1 : Nat) (r2 : Nat) (r3 : Nat) (r4 : Nat) (r5 : Nat) (r6 : Nat) (lR : Int32) (fR1 : Nat → Int32) (fR2 : Nat → Int32) (fR3 : Nat → Int32) (fR4 : Nat → Int32) (fR5 : Nat → Int32) (fR6 : Nat → Int32) (g_lR : 0 ≤ lR.toInt ∧ lR.toInt ≤ 258) : kMi l yX9_keepFound wsX9_keepFound ({ frames := 0, cells := 0, slots := 0, locals := 0 } : Room) [.ref oR] sz (dC, dI) vwCl [(cI, .int), (cS, .short)] [(oR, .inr (9, [.ref oH, .ref oK, .ref n1, .ref n2, .ref n3, .ref r1, .ref r2, .ref r3, .ref r4, .ref r5, .ref r6, .int lR])), (r1, .inl (cI, 258, .inl fR1)), (r2, .inl (cI, 258, .inl fR2)), (r3, .inl (cI, 774, .inl fR3)), (r4, .inl (cI, 258, .inl fR4)), (r5, .inl (cI, 258, .inl fR5)), (r6, .inl (cI, 774, .inl fR6))] (fun _ => True) 0 0 (fun (A : Nat → Prop) (r : Int32) (hh9 : Heap) => ∀ PZ9 : Prop, (∀ (lR' : Int32) (fR4' : Nat → Int32) (fR5' : Nat → Int32) (fR6' : Nat → Int32), kPD (dC, dI) vwCl A [(oR, .inr (9, [.ref oH, .ref oK, .ref n1, .ref n2, .ref n3, .ref r1, .ref r2, .ref r3, .ref r4, .ref r5, .ref r6, .int lR'])), (r1, .inl (cI, 258, .inl fR1)), (r2, .inl (cI, 258, .inl fR2)), (r3, .inl (cI, 774, .inl fR3)), (r4, .inl (cI, 258, .inl fR4')), (r5, .inl (cI, 258, .inl fR5')), (r6, .inl (cI, 774, .inl fR6'))] hh9 → (0 ≤ lR'.toInt ∧ lR'.toInt ≤ 258) → (r.toInt = lR'.toInt) → (KFD fR1 fR2 fR3 fR4' fR5' fR6' 258 lR'.toInt) → PZ9) → PZ9) := by
  refine kMi_of (cc := cX9_keepFound) (maxL := 3) (ret := (some .int)) (lv := [(0, .ref oR)]) (by decide +kernel) rfl rfl (Nat.le_of_ble_eq_true rfl) ?_
  intro p e s m below meth c A QQ ls hx hb hr hts hml hown hlocks hA hQQ hK hX hP hD hS hl
  have hown : s.vm.findClass RX9 = some m.cls := hown
  have hcf := k_cf hx hb hml hown hts
  have in_X9 : ∀ w ∈ wsX90, w ∈ wsX9_keepFound := fun _ h => List.mem_cons_of_mem _ (List.mem_append_right _ (h))
  replace g_lR := hid g_lR
  refine lv_aload_n hx hb dX9_keepFound_0 rfl (lv_at hl 0 rfl) ?_
  refine lv_iconst (v := 0) hx hb dX9_keepFound_1 (by decide) ?_
  refine va_put (D := (dC, dI)) (ci := 9) (v := .int 0) (ty := .int) (C := RX9) (T := TX9) (N := 12) hx hb hts in_X9 tyX9 tyX9_ok nmX9 hown hK hP hD hS 0 rfl rfl 11 (Nat.le_of_ble_eq_true rfl) (hts (.fieldLink RX9 59 "TextMender$Rows" "told" "I") (List.mem_of_getElem? (i := 1) rfl)) (fun _ h9 => h9) rfl (tyX9_ok 11 (Nat.le_of_ble_eq_true rfl)) rfl rfl (Nat.le_of_ble_eq_true rfl) dX9_keepFound_2 (kW (wn := [(oR, .inr (9, [.ref oH, .ref oK, .ref n1, .ref n2, .ref n3, .ref r1, .ref r2, .ref r3, .ref r4, .ref r5, .ref r6, .int 0])), (r1, .inl (cI, 258, .inl fR1)), (r2, .inl (cI, 258, .inl fR2)), (r3, .inl (cI, 774, .inl fR3)), (r4, .inl (cI, 258, .inl fR4)), (r5, .inl (cI, 258, .inl fR5)), (r6, .inl (cI, 774, .inl fR6))]) rfl (fun H locs hPn hDn hSn => ?_))
  clear hP hD hS
  have hP := hPn
  have hD := hDn
  have hS := hSn
  clear hPn hDn hSn
  refine lv_iconst (v := 0) hx hb dX9_keepFound_5 (by decide) ?_
  refine lv_istore_n (lv' := [(1, .int 0), (0, .ref oR)]) hx hb dX9_keepFound_6 rfl hl (by decide) rfl (fun ls hl => ?_)
  have LOOP_7 : ∀ (k_7 : Nat) (pl : Int32) (l2 : Int32) (f4 : Nat → Int32) (f5 : Nat → Int32) (f6 : Nat → Int32) (H : Heap) (locs : List Loc) (ls : Array Slot), MSd (258 - pl.toInt : Int) k_7 → (0 ≤ pl.toInt ∧ pl.toInt ≤ 258) → (0 ≤ l2.toInt ∧ l2.toInt ≤ pl.toInt) → (KFD fR1 fR2 fR3 f4 f5 f6 pl.toNatClampNeg l2.toInt) → va_P (dC, dI) vwCl [(oR, .inr (9, [.ref oH, .ref oK, .ref n1, .ref n2, .ref n3, .ref r1, .ref r2, .ref r3, .ref r4, .ref r5, .ref r6, .int l2])), (r1, .inl (cI, 258, .inl fR1)), (r2, .inl (cI, 258, .inl fR2)), (r3, .inl (cI, 774, .inl fR3)), (r4, .inl (cI, 258, .inl f4)), (r5, .inl (cI, 258, .inl f5)), (r6, .inl (cI, 774, .inl f6))] H → va_D A [(oR, .inr (9, [.ref oH, .ref oK, .ref n1, .ref n2, .ref n3, .ref r1, .ref r2, .ref r3, .ref r4, .ref r5, .ref r6, .int l2])), (r1, .inl (cI, 258, .inl fR1)), (r2, .inl (cI, 258, .inl fR2)), (r3, .inl (cI, 774, .inl fR3)), (r4, .inl (cI, 258, .inl f4)), (r5, .inl (cI, 258, .inl f5)), (r6, .inl (cI, 774, .inl f6))] → va_S A s.heap H locs → lv_has ls 3 [(1, .int pl), (0, .ref oR)] → W p l e (headSpec wsX9_keepFound ({ frames := 0, cells := 0, slots := 0, locals := 0 } : Room)).room s m ([.ref oR] : List Value).toArray below meth c H locs 0 0 (MQ below QQ ([.ref oR] : List Value).toArray s 0 0 A) (F0 m 7 ls []) := by
    clear hP hD hS hl
    intro k_7
    induction k_7 with
    | zero =>
      intro pl l2 f4 f5 f6 H locs ls hm_7 g_pl g_l2 hkf hP hD hS hl
      exact ms_0 hm_7
    | succ k_7 ih_7 =>
      intro pl l2 f4 f5 f6 H locs ls hm_7 g_pl g_l2 hkf hP hD hS hl
      refine lv_iload_n hx hb dX9_keepFound_7 rfl (lv_at hl 0 rfl) ?_
      refine lv_sipush (v := 258) hx hb dX9_keepFound_8 (by decide) ?_
      refine lv_icmp_ge (tgt := 106) hx hb dX9_keepFound_11 (by decide) (fun c_1 => ?_) (fun c_1 => ?_)
      · have tc_1 : 258 ≤ pl.toInt := v_le c_1
        refine lv_aload_n hx hb dX9_keepFound_106 rfl (lv_at hl 1 rfl) ?_
        refine va_get (D := (dC, dI)) (ci := 9) (v := .int l2) (C := RX9) (T := TX9) (N := 12) hx hb hts in_X9 hown hK hP 0 rfl rfl 11 (Nat.le_of_ble_eq_true rfl) (hts (.fieldLink RX9 59 "TextMender$Rows" "told" "I") (List.mem_of_getElem? (i := 1) rfl)) (fun _ h9 => h9) rfl dX9_keepFound_107 ?_
        exact kl_i (v := l2) hQQ hx hb hr hlocks hS dX9_keepFound_110 (fun PZ9 kZ9 => kZ9 l2 f4 f5 f6 (⟨hP, hD⟩) (by omega) (by show l2.toInt = l2.toInt; omega) (KFD_e hkf (ix_eq (by omega))))
      · have tc_1 : pl.toInt < 258 := v_nle c_1
        have cpl9 := v_clamp (x := pl) (by omega)
        refine lv_aload_n hx hb dX9_keepFound_14 rfl (lv_at hl 1 rfl) ?_
        refine va_get (D := (dC, dI)) (ci := 9) (v := .ref r1) (C := RX9) (T := TX9) (N := 12) hx hb hts in_X9 hown hK hP 0 rfl rfl 5 (Nat.le_of_ble_eq_true rfl) (hts (.fieldLink RX9 26 "TextMender$Rows" "foundCost" "[I") (List.mem_of_getElem? (i := 2) rfl)) (fun _ h9 => h9) rfl dX9_keepFound_15 ?_
        refine lv_iload_n hx hb dX9_keepFound_18 rfl (lv_at hl 0 rfl) ?_
        refine va_iald hx hb hK hP 1 0 rfl rfl (v_in (by omega)) dX9_keepFound_19 ?_
        refine lv_topi (fun x_2 ex_2 => ?_)
        refine lv_iconst (v := (-1)) hx hb dX9_keepFound_20 (by decide) ?_
        refine lv_icmp_eq (tgt := 100) hx hb dX9_keepFound_21 (by decide) (fun c_3 => ?_) (fun c_3 => ?_)
        · have tc_3 : x_2.toInt = (-1) := v_eq c_3
          obtain ⟨x_4, ex_4⟩ : ∃ y : Int32, y = pl + 1 := ⟨_, rfl⟩
          have tx_4 : x_4.toInt = pl.toInt + 1 := v_addR (l2 := 1) (h2 := 1) ex_4 g_pl (by decide) (by decide) (by decide)
          refine lv_iinc (v := x_4) (lv' := [(1, .int x_4), (0, .ref oR)]) hx hb dX9_keepFound_100 hl (k := 0) rfl (by rw [ex_4]; rfl) (by decide) rfl (fun ls hl => ?_)
          refine lv_goto (tgt := 7) hx hb dX9_keepFound_103 (by decide) ?_
          exact ih_7 x_4 l2 f4 f5 f6 _ _ _ (ms_lt hm_7 (by show ((258 - x_4.toInt : Int)) < 258 - pl.toInt; omega) (by show (0 : Int) < 258 - pl.toInt; omega)) (by show 0 ≤ x_4.toInt ∧ x_4.toInt ≤ 258; omega) (by show 0 ≤ l2.toInt ∧ l2.toInt ≤ x_4.toInt; omega) (KFD_n hkf ex_2 c_3 (ix_eq (by omega))) hP hD hS (lv_sub hl [0, 1] rfl)
        · have tc_3 : ¬ x_2.toInt = (-1) := v_ne c_3
          have hne9 : ¬ fR1 pl.toNatClampNeg = -1 := by rw [← ex_2]; exact c_3
          refine lv_aload_n hx hb dX9_keepFound_24 rfl (lv_at hl 1 rfl) ?_
          refine va_get (D := (dC, dI)) (ci := 9) (v := .ref r4) (C := RX9) (T := TX9) (N := 12) hx hb hts in_X9 hown hK hP 0 rfl rfl 8 (Nat.le_of_ble_eq_true rfl) (hts (.fieldLink RX9 36 "TextMender$Rows" "toldCost" "[I") (List.mem_of_getElem? (i := 3) rfl)) (fun _ h9 => h9) rfl dX9_keepFound_25 ?_
          refine lv_aload_n hx hb dX9_keepFound_28 rfl (lv_at hl 1 rfl) ?_
          refine va_get (D := (dC, dI)) (ci := 9) (v := .int l2) (C := RX9) (T := TX9) (N := 12) hx hb hts in_X9 hown hK hP 0 rfl rfl 11 (Nat.le_of_ble_eq_true rfl) (hts (.fieldLink RX9 59 "TextMender$Rows" "told" "I") (List.mem_of_getElem? (i := 1) rfl)) (fun _ h9 => h9) rfl dX9_keepFound_29 ?_
          refine lv_aload_n hx hb dX9_keepFound_32 rfl (lv_at hl 1 rfl) ?_
          refine va_get (D := (dC, dI)) (ci := 9) (v := .ref r1) (C := RX9) (T := TX9) (N := 12) hx hb hts in_X9 hown hK hP 0 rfl rfl 5 (Nat.le_of_ble_eq_true rfl) (hts (.fieldLink RX9 26 "TextMender$Rows" "foundCost" "[I") (List.mem_of_getElem? (i := 2) rfl)) (fun _ h9 => h9) rfl dX9_keepFound_33 ?_
          refine lv_iload_n hx hb dX9_keepFound_36 rfl (lv_at hl 0 rfl) ?_
          refine va_iald hx hb hK hP 1 0 rfl rfl (v_in (by omega)) dX9_keepFound_37 ?_
          refine k_i (y := x_2) ex_2.symm ?_
          obtain ⟨f_5, ef_5⟩ : ∃ g : Nat → Int32, g = upd f4 (l2 : Int32).toNatClampNeg x_2 := ⟨_, rfl⟩
          refine va_iast hx hb hK hP hD hS 4 0 rfl rfl (v_in (by omega)) dX9_keepFound_38 (kWf (g := f_5) (F := fun f_5 => [(oR, .inr (9, [.ref oH, .ref oK, .ref n1, .ref n2, .ref n3, .ref r1, .ref r2, .ref r3, .ref r4, .ref r5, .ref r6, .int l2])), (r1, .inl (cI, 258, .inl fR1)), (r2, .inl (cI, 258, .inl fR2)), (r3, .inl (cI, 774, .inl fR3)), (r4, .inl (cI, 258, .inl f_5)), (r5, .inl (cI, 258, .inl f5)), (r6, .inl (cI, 774, .inl f6))]) ef_5 rfl (fun H locs hPn hDn hSn => ?_))
          clear hP hD hS
          have hP := hPn
          have hD := hDn
          have hS := hSn
          clear hPn hDn hSn
          refine lv_aload_n hx hb dX9_keepFound_39 rfl (lv_at hl 1 rfl) ?_
          refine va_get (D := (dC, dI)) (ci := 9) (v := .ref r5) (C := RX9) (T := TX9) (N := 12) hx hb hts in_X9 hown hK hP 0 rfl rfl 9 (Nat.le_of_ble_eq_true rfl) (hts (.fieldLink RX9 39 "TextMender$Rows" "toldLength" "[I") (List.mem_of_getElem? (i := 4) rfl)) (fun _ h9 => h9) rfl dX9_keepFound_40 ?_
          refine lv_aload_n hx hb dX9_keepFound_43 rfl (lv_at hl 1 rfl) ?_
          refine va_get (D := (dC, dI)) (ci := 9) (v := .int l2) (C := RX9) (T := TX9) (N := 12) hx hb hts in_X9 hown hK hP 0 rfl rfl 11 (Nat.le_of_ble_eq_true rfl) (hts (.fieldLink RX9 59 "TextMender$Rows" "told" "I") (List.mem_of_getElem? (i := 1) rfl)) (fun _ h9 => h9) rfl dX9_keepFound_44 ?_
          refine lv_aload_n hx hb dX9_keepFound_47 rfl (lv_at hl 1 rfl) ?_
          refine va_get (D := (dC, dI)) (ci := 9) (v := .ref r2) (C := RX9) (T := TX9) (N := 12) hx hb hts in_X9 hown hK hP 0 rfl rfl 6 (Nat.le_of_ble_eq_true rfl) (hts (.fieldLink RX9 30 "TextMender$Rows" "foundLength" "[I") (List.mem_of_getElem? (i := 5) rfl)) (fun _ h9 => h9) rfl dX9_keepFound_48 ?_
          refine lv_iload_n hx hb dX9_keepFound_51 rfl (lv_at hl 0 rfl) ?_
          refine va_iald hx hb hK hP 2 0 rfl rfl (v_in (by omega)) dX9_keepFound_52 ?_
          refine lv_topi (fun x_6 ex_6 => ?_)
          obtain ⟨f_7, ef_7⟩ : ∃ g : Nat → Int32, g = upd f5 (l2 : Int32).toNatClampNeg x_6 := ⟨_, rfl⟩
          refine va_iast hx hb hK hP hD hS 5 0 rfl rfl (v_in (by omega)) dX9_keepFound_53 (kWf (g := f_7) (F := fun f_7 => [(oR, .inr (9, [.ref oH, .ref oK, .ref n1, .ref n2, .ref n3, .ref r1, .ref r2, .ref r3, .ref r4, .ref r5, .ref r6, .int l2])), (r1, .inl (cI, 258, .inl fR1)), (r2, .inl (cI, 258, .inl fR2)), (r3, .inl (cI, 774, .inl fR3)), (r4, .inl (cI, 258, .inl f_5)), (r5, .inl (cI, 258, .inl f_7)), (r6, .inl (cI, 774, .inl f6))]) ef_7 rfl (fun H locs hPn hDn hSn => ?_))
          clear hP hD hS
          have hP := hPn
          have hD := hDn
          have hS := hSn
          clear hPn hDn hSn
          refine lv_iconst (v := 0) hx hb dX9_keepFound_54 (by decide) ?_
          refine lv_istore_n (lv' := [(2, .int 0), (1, .int pl), (0, .ref oR)]) hx hb dX9_keepFound_55 rfl hl (by decide) rfl (fun ls hl => ?_)
          have LOOP_56 : ∀ (k_56 : Nat) (k : Int32) (f7 : Nat → Int32) (H : Heap) (locs : List Loc) (ls : Array Slot), MSd (3 - k.toInt : Int) k_56 → (0 ≤ k.toInt ∧ k.toInt ≤ 3) → (CP3 l2.toInt pl.toInt k.toInt f6 f7 fR3) → va_P (dC, dI) vwCl [(oR, .inr (9, [.ref oH, .ref oK, .ref n1, .ref n2, .ref n3, .ref r1, .ref r2, .ref r3, .ref r4, .ref r5, .ref r6, .int l2])), (r1, .inl (cI, 258, .inl fR1)), (r2, .inl (cI, 258, .inl fR2)), (r3, .inl (cI, 774, .inl fR3)), (r4, .inl (cI, 258, .inl f_5)), (r5, .inl (cI, 258, .inl f_7)), (r6, .inl (cI, 774, .inl f7))] H → va_D A [(oR, .inr (9, [.ref oH, .ref oK, .ref n1, .ref n2, .ref n3, .ref r1, .ref r2, .ref r3, .ref r4, .ref r5, .ref r6, .int l2])), (r1, .inl (cI, 258, .inl fR1)), (r2, .inl (cI, 258, .inl fR2)), (r3, .inl (cI, 774, .inl fR3)), (r4, .inl (cI, 258, .inl f_5)), (r5, .inl (cI, 258, .inl f_7)), (r6, .inl (cI, 774, .inl f7))] → va_S A s.heap H locs → lv_has ls 3 [(2, .int k), (1, .int pl), (0, .ref oR)] → W p l e (headSpec wsX9_keepFound ({ frames := 0, cells := 0, slots := 0, locals := 0 } : Room)).room s m ([.ref oR] : List Value).toArray below meth c H locs 0 0 (MQ below QQ ([.ref oR] : List Value).toArray s 0 0 A) (F0 m 56 ls []) := by
            clear hP hD hS hl
            intro k_56
            induction k_56 with
            | zero =>
              intro k f7 H locs ls hm_56 g_k hcp hP hD hS hl
              exact ms_0 hm_56
            | succ k_56 ih_56 =>
              intro k f7 H locs ls hm_56 g_k hcp hP hD hS hl
              refine lv_iload_n hx hb dX9_keepFound_56 rfl (lv_at hl 0 rfl) ?_
              refine lv_iconst (v := 3) hx hb dX9_keepFound_57 (by decide) ?_
              refine lv_icmp_ge (tgt := 90) hx hb dX9_keepFound_58 (by decide) (fun c_8 => ?_) (fun c_8 => ?_)
              · have tc_8 : 3 ≤ k.toInt := v_le c_8
                refine lv_aload_n hx hb dX9_keepFound_90 rfl (lv_at hl 2 rfl) ?_
                refine lv_dup hx hb dX9_keepFound_91 rfl ?_
                refine va_get (D := (dC, dI)) (ci := 9) (v := .int l2) (C := RX9) (T := TX9) (N := 12) hx hb hts in_X9 hown hK hP 0 rfl rfl 11 (Nat.le_of_ble_eq_true rfl) (hts (.fieldLink RX9 59 "TextMender$Rows" "told" "I") (List.mem_of_getElem? (i := 1) rfl)) (fun _ h9 => h9) rfl dX9_keepFound_92 ?_
                refine lv_iconst (v := 1) hx hb dX9_keepFound_95 (by decide) ?_
                refine lv_iadd hx hb dX9_keepFound_96 ?_
                refine lv_topi (fun x_9 ex_9 => ?_)
                have tx_9 : x_9.toInt = l2.toInt + 1 := v_add ex_9 (by show -2147483648 ≤ l2.toInt + 1; omega) (by show l2.toInt + 1 < 2147483648; omega)
                refine va_put (D := (dC, dI)) (ci := 9) (v := .int x_9) (ty := .int) (C := RX9) (T := TX9) (N := 12) hx hb hts in_X9 tyX9 tyX9_ok nmX9 hown hK hP hD hS 0 rfl rfl 11 (Nat.le_of_ble_eq_true rfl) (hts (.fieldLink RX9 59 "TextMender$Rows" "told" "I") (List.mem_of_getElem? (i := 1) rfl)) (fun _ h9 => h9) rfl (tyX9_ok 11 (Nat.le_of_ble_eq_true rfl)) rfl rfl (Nat.le_of_ble_eq_true rfl) dX9_keepFound_97 (kW (wn := [(oR, .inr (9, [.ref oH, .ref oK, .ref n1, .ref n2, .ref n3, .ref r1, .ref r2, .ref r3, .ref r4, .ref r5, .ref r6, .int x_9])), (r1, .inl (cI, 258, .inl fR1)), (r2, .inl (cI, 258, .inl fR2)), (r3, .inl (cI, 774, .inl fR3)), (r4, .inl (cI, 258, .inl f_5)), (r5, .inl (cI, 258, .inl f_7)), (r6, .inl (cI, 774, .inl f7))]) rfl (fun H locs hPn hDn hSn => ?_))
                clear hP hD hS
                have hP := hPn
                have hD := hDn
                have hS := hSn
                clear hPn hDn hSn
                obtain ⟨x_10, ex_10⟩ : ∃ y : Int32, y = pl + 1 := ⟨_, rfl⟩
                have tx_10 : x_10.toInt = pl.toInt + 1 := v_addR (l2 := 1) (h2 := 1) ex_10 g_pl (by decide) (by decide) (by decide)
                refine lv_iinc (v := x_10) (lv' := [(1, .int x_10), (2, .int k), (0, .ref oR)]) hx hb dX9_keepFound_100 hl (k := 1) rfl (by rw [ex_10]; rfl) (by decide) rfl (fun ls hl => ?_)
                refine lv_goto (tgt := 7) hx hb dX9_keepFound_103 (by decide) ?_
                exact ih_7 x_10 x_9 f_5 f_7 f7 _ _ _ (ms_lt hm_7 (by show ((258 - x_10.toInt : Int)) < 258 - pl.toInt; omega) (by show (0 : Int) < 258 - pl.toInt; omega)) (by show 0 ≤ x_10.toInt ∧ x_10.toInt ≤ 258; omega) (by show 0 ≤ x_9.toInt ∧ x_9.toInt ≤ x_10.toInt; omega) (KFD_y hkf hne9 ex_2 ex_6 ef_5 ef_7 hcp (by omega) (by omega) (by omega) (ix_eq (by omega)) (by omega)) hP hD hS (lv_sub hl [0, 2] rfl)
              · have tc_8 : k.toInt < 3 := v_nle c_8
                refine lv_aload_n hx hb dX9_keepFound_61 rfl (lv_at hl 2 rfl) ?_
                refine va_get (D := (dC, dI)) (ci := 9) (v := .ref r6) (C := RX9) (T := TX9) (N := 12) hx hb hts in_X9 hown hK hP 0 rfl rfl 10 (Nat.le_of_ble_eq_true rfl) (hts (.fieldLink RX9 42 "TextMender$Rows" "toldHarms" "[I") (List.mem_of_getElem? (i := 6) rfl)) (fun _ h9 => h9) rfl dX9_keepFound_62 ?_
                refine lv_aload_n hx hb dX9_keepFound_65 rfl (lv_at hl 2 rfl) ?_
                refine va_get (D := (dC, dI)) (ci := 9) (v := .int l2) (C := RX9) (T := TX9) (N := 12) hx hb hts in_X9 hown hK hP 0 rfl rfl 11 (Nat.le_of_ble_eq_true rfl) (hts (.fieldLink RX9 59 "TextMender$Rows" "told" "I") (List.mem_of_getElem? (i := 1) rfl)) (fun _ h9 => h9) rfl dX9_keepFound_66 ?_
                refine lv_iconst (v := 3) hx hb dX9_keepFound_69 (by decide) ?_
                refine lv_imul hx hb dX9_keepFound_70 ?_
                refine lv_topi (fun x_11 ex_11 => ?_)
                have tx_11 : x_11.toInt = l2.toInt * 3 := v_mul ex_11 (by show -2147483648 ≤ l2.toInt * 3; omega) (by show l2.toInt * 3 < 2147483648; omega)
                refine lv_iload_n hx hb dX9_keepFound_71 rfl (lv_at hl 0 rfl) ?_
                refine lv_iadd hx hb dX9_keepFound_72 ?_
                refine lv_topi (fun x_12 ex_12 => ?_)
                have tx_12 : x_12.toInt = x_11.toInt + k.toInt := v_add ex_12 (by show -2147483648 ≤ x_11.toInt + k.toInt; omega) (by show x_11.toInt + k.toInt < 2147483648; omega)
                refine lv_aload_n hx hb dX9_keepFound_73 rfl (lv_at hl 2 rfl) ?_
                refine va_get (D := (dC, dI)) (ci := 9) (v := .ref r3) (C := RX9) (T := TX9) (N := 12) hx hb hts in_X9 hown hK hP 0 rfl rfl 7 (Nat.le_of_ble_eq_true rfl) (hts (.fieldLink RX9 33 "TextMender$Rows" "foundHarms" "[I") (List.mem_of_getElem? (i := 7) rfl)) (fun _ h9 => h9) rfl dX9_keepFound_74 ?_
                refine lv_iload_n hx hb dX9_keepFound_77 rfl (lv_at hl 1 rfl) ?_
                refine lv_iconst (v := 3) hx hb dX9_keepFound_78 (by decide) ?_
                refine lv_imul hx hb dX9_keepFound_79 ?_
                refine lv_topi (fun x_13 ex_13 => ?_)
                have tx_13 : x_13.toInt = pl.toInt * 3 := v_mul ex_13 (by show -2147483648 ≤ pl.toInt * 3; omega) (by show pl.toInt * 3 < 2147483648; omega)
                refine lv_iload_n hx hb dX9_keepFound_80 rfl (lv_at hl 0 rfl) ?_
                refine lv_iadd hx hb dX9_keepFound_81 ?_
                refine lv_topi (fun x_14 ex_14 => ?_)
                have tx_14 : x_14.toInt = x_13.toInt + k.toInt := v_add ex_14 (by show -2147483648 ≤ x_13.toInt + k.toInt; omega) (by show x_13.toInt + k.toInt < 2147483648; omega)
                refine va_iald hx hb hK hP 3 0 rfl rfl (v_in (by omega)) dX9_keepFound_82 ?_
                refine lv_topi (fun x_15 ex_15 => ?_)
                obtain ⟨f_16, ef_16⟩ : ∃ g : Nat → Int32, g = upd f7 (x_12 : Int32).toNatClampNeg x_15 := ⟨_, rfl⟩
                refine va_iast hx hb hK hP hD hS 6 0 rfl rfl (v_in (by omega)) dX9_keepFound_83 (kWf (g := f_16) (F := fun f_16 => [(oR, .inr (9, [.ref oH, .ref oK, .ref n1, .ref n2, .ref n3, .ref r1, .ref r2, .ref r3, .ref r4, .ref r5, .ref r6, .int l2])), (r1, .inl (cI, 258, .inl fR1)), (r2, .inl (cI, 258, .inl fR2)), (r3, .inl (cI, 774, .inl fR3)), (r4, .inl (cI, 258, .inl f_5)), (r5, .inl (cI, 258, .inl f_7)), (r6, .inl (cI, 774, .inl f_16))]) ef_16 rfl (fun H locs hPn hDn hSn => ?_))
                clear hP hD hS
                have hP := hPn
                have hD := hDn
                have hS := hSn
                clear hPn hDn hSn
                obtain ⟨x_17, ex_17⟩ : ∃ y : Int32, y = k + 1 := ⟨_, rfl⟩
                have tx_17 : x_17.toInt = k.toInt + 1 := v_addR (l2 := 1) (h2 := 1) ex_17 g_k (by decide) (by decide) (by decide)
                refine lv_iinc (v := x_17) (lv' := [(2, .int x_17), (1, .int pl), (0, .ref oR)]) hx hb dX9_keepFound_84 hl (k := 0) rfl (by rw [ex_17]; rfl) (by decide) rfl (fun ls hl => ?_)
                refine lv_goto (tgt := 56) hx hb dX9_keepFound_87 (by decide) ?_
                exact ih_56 x_17 f_16 _ _ _ (ms_lt hm_56 (by show ((3 - x_17.toInt : Int)) < 3 - k.toInt; omega) (by show (0 : Int) < 3 - k.toInt; omega)) (by show 0 ≤ x_17.toInt ∧ x_17.toInt ≤ 3; omega) (CP3_s hcp (by omega) (by omega) (by omega) (by omega) (by omega) ex_15 ef_16 (by omega)) hP hD hS (lv_sub hl [0, 1, 2] rfl)
          exact LOOP_56 _ 0 f6 _ _ _ (ms_s _) (by decide) (CP3_0 rfl) hP hD hS (lv_sub hl [0, 1, 2] rfl)
  exact LOOP_7 _ 0 0 fR4 fR5 fR6 _ _ _ (ms_s _) (by decide) (by show 0 ≤ (0 : Int) ∧ (0 : Int) ≤ 0; omega) (KFD_0 rfl rfl) hP hD hS (lv_sub hl [0, 1] rfl)

set_option maxHeartbeats 40000000 in
set_option maxRecDepth 100000 in
theorem f_X11_rows (l : Launch) (dC : Nat → ClassId) (dI : Nat → Nat → Nat) (cI cS : ClassId) (sz : Nat) (oX : Nat) (nT : Nat) (nL : Nat) (nM : Nat) (oC : Nat) (oP : Nat) (oH : Nat) (oK : Nat) (oG : Nat) (oR : Nat) (oQ : Nat) (oW : Nat) (n1 : Nat) (n2 : Nat) (n3 : Nat) (r1 : Nat) (r2 : Nat) (r3 : Nat) (r4 : Nat) (r5 : Nat) (r6 : Nat) (a1 : Nat) (a2 : Nat) (a3 : Nat) (h1 : Nat) (h2 : Nat) (nB : Nat) (aB : Nat) (o4 : Nat) (o5 : Nat) (a41 : Nat) (a42 : Nat) (a43 : Nat) (a51 : Nat) (a52 : Nat) (a53 : Nat) (k1 : Nat) (k2 : Nat) (aL : Nat) (fa : Int32) (lR : Int32) (fR1 : Nat → Int32) (fR2 : Nat → Int32) (fR3 : Nat → Int32) (fR4 : Nat → Int32) (fR5 : Nat → Int32) (fR6 : Nat → Int32) (l1 : Int32) (f1 : Nat → Int32) (l2 : Int32) (f2 : Nat → Int32) (l3 : Int32) (f3 : Nat → Int32) (lH : Int32) (fH1 : Nat → Int32) (fH2 : Nat → Int32) (ft : Int32) (lB : Int32) (fB : Nat → Int32) (l4 : Int32) (f41 : Nat → Int32) (f42 : Nat → Int32) (f43 : Nat → Int32) (l5 : Int32) (f51 : Nat → Int32) (f52 : Nat → Int32) (f53 : Nat → Int32) (lK : Int32) (fK1 : Nat → Int32) (fK2 : Nat → Int32) (lL : Int32) (fL : Nat → Int32) (n : Int32) (g_lR : 0 ≤ lR.toInt ∧ lR.toInt ≤ 258) (g_l1 : 0 ≤ l1.toInt ∧ l1.toInt ≤ 300) (g_l2 : 0 ≤ l2.toInt ∧ l2.toInt ≤ 300) (g_l3 : 0 ≤ l3.toInt ∧ l3.toInt ≤ 300) (g_lH : 0 ≤ lH.toInt ∧ lH.toInt ≤ 6) (g_lB : 0 ≤ lB.toInt ∧ lB.toInt ≤ 2400) (g_lK : 0 ≤ lK.toInt ∧ lK.toInt ≤ 300) (g_lL : 0 ≤ lL.toInt ∧ lL.toInt ≤ 300) (hlt : prg lL.toInt 0 65535 fL) (hT4 : HT 512 511 hsT f42 f43) (ho4 : (occ f43 512 : Int) ≤ 511) (hT5 : HT 512 511 hsT f52 f53) (ho5 : (occ f53 512 : Int) ≤ 511) (hL4 : prg 256 (-1) 65535 f41) (hL5 : prg 256 (-1) 65535 f51) (hBr : ∀ cd : Int32, okB (Bc cd f42 f43 f52 f53)) (hT : HT 1024 1023 hsK fK1 fK2) (ho : (occ fK2 1024 : Int) ≤ lK.toInt) (hV : prg 1024 (-1) 200 fK2) : kMi l yX11_rows wsX11_rows ({ frames := 7, cells := 0, slots := 0, locals := 175 } : Room) [.ref oX, .int n] sz (dC, dI) vwCl [(cI, .int), (cS, .short)] [(oX, .inr (11, [.ref nT, .ref nL, .ref nM, .ref oC, .ref oP, .ref oH, .ref oK, .ref oG, .ref oR, .ref oQ, .ref oW, .int fa])), (oR, .inr (9, [.ref oH, .ref oK, .ref n1, .ref n2, .ref n3, .ref r1, .ref r2, .ref r3, .ref r4, .ref r5, .ref r6, .int lR])), (r1, .inl (cI, 258, .inl fR1)), (r2, .inl (cI, 258, .inl fR2)), (r3, .inl (cI, 774, .inl fR3)), (r4, .inl (cI, 258, .inl fR4)), (r5, .inl (cI, 258, .inl fR5)), (r6, .inl (cI, 774, .inl fR6)), (n1, .inr (5, [.ref a1, .int l1])), (a1, .inl (cI, 300, .inl f1)), (n2, .inr (5, [.ref a2, .int l2])), (a2, .inl (cI, 300, .inl f2)), (n3, .inr (5, [.ref a3, .int l3])), (a3, .inl (cI, 300, .inl f3)), (oH, .inr (4, [.ref oP, .ref h1, .ref h2, .int lH])), (h1, .inl (cI, 6, .inl fH1)), (h2, .inl (cI, 6, .inl fH2)), (oP, .inr (7, [.ref oC, .ref nB, .int ft])), (nB, .inr (5, [.ref aB, .int lB])), (aB, .inl (cI, 2400, .inl fB)), (oC, .inr (2, [.ref o4, .ref o5])), (o4, .inr (10, [.ref a41, .ref a42, .ref a43, .int l4])), (a41, .inl (cI, 256, .inl f41)), (a42, .inl (cI, 512, .inl f42)), (a43, .inl (cI, 512, .inl f43)), (o5, .inr (10, [.ref a51, .ref a52, .ref a53, .int l5])), (a51, .inl (cI, 256, .inl f51)), (a52, .inl (cI, 512, .inl f52)), (a53, .inl (cI, 512, .inl f53)), (oK, .inr (3, [.ref k1, .ref k2, .int lK])), (k1, .inl (cI, 1024, .inl fK1)), (k2, .inl (cI, 1024, .inl fK2)), (nL, .inr (5, [.ref aL, .int lL])), (aL, .inl (cI, 300, .inl fL))] (va_Nw (.methodLinkNest RX2 52 yX11_isLetter "TextMender")) 0 0 (fun (A : Nat → Prop) (r : Int32) (hh9 : Heap) => ∀ PZ9 : Prop, (∀ (fa' : Int32) (ft' : Int32) (lB' : Int32) (fB' : Nat → Int32) (l1' : Int32) (f1' : Nat → Int32) (l2' : Int32) (f2' : Nat → Int32) (l3' : Int32) (f3' : Nat → Int32) (fR1' : Nat → Int32) (fR2' : Nat → Int32) (fR3' : Nat → Int32) (lR' : Int32) (fR4' : Nat → Int32) (fR5' : Nat → Int32) (fR6' : Nat → Int32), kPD (dC, dI) vwCl A [(oX, .inr (11, [.ref nT, .ref nL, .ref nM, .ref oC, .ref oP, .ref oH, .ref oK, .ref oG, .ref oR, .ref oQ, .ref oW, .int fa'])), (oR, .inr (9, [.ref oH, .ref oK, .ref n1, .ref n2, .ref n3, .ref r1, .ref r2, .ref r3, .ref r4, .ref r5, .ref r6, .int lR'])), (r1, .inl (cI, 258, .inl fR1')), (r2, .inl (cI, 258, .inl fR2')), (r3, .inl (cI, 774, .inl fR3')), (r4, .inl (cI, 258, .inl fR4')), (r5, .inl (cI, 258, .inl fR5')), (r6, .inl (cI, 774, .inl fR6')), (n1, .inr (5, [.ref a1, .int l1'])), (a1, .inl (cI, 300, .inl f1')), (n2, .inr (5, [.ref a2, .int l2'])), (a2, .inl (cI, 300, .inl f2')), (n3, .inr (5, [.ref a3, .int l3'])), (a3, .inl (cI, 300, .inl f3')), (oH, .inr (4, [.ref oP, .ref h1, .ref h2, .int lH])), (h1, .inl (cI, 6, .inl fH1)), (h2, .inl (cI, 6, .inl fH2)), (oP, .inr (7, [.ref oC, .ref nB, .int ft'])), (nB, .inr (5, [.ref aB, .int lB'])), (aB, .inl (cI, 2400, .inl fB')), (oC, .inr (2, [.ref o4, .ref o5])), (o4, .inr (10, [.ref a41, .ref a42, .ref a43, .int l4])), (a41, .inl (cI, 256, .inl f41)), (a42, .inl (cI, 512, .inl f42)), (a43, .inl (cI, 512, .inl f43)), (o5, .inr (10, [.ref a51, .ref a52, .ref a53, .int l5])), (a51, .inl (cI, 256, .inl f51)), (a52, .inl (cI, 512, .inl f52)), (a53, .inl (cI, 512, .inl f53)), (oK, .inr (3, [.ref k1, .ref k2, .int lK])), (k1, .inl (cI, 1024, .inl fK1)), (k2, .inl (cI, 1024, .inl fK2)), (nL, .inr (5, [.ref aL, .int lL])), (aL, .inl (cI, 300, .inl fL))] hh9 → (0 ≤ lB'.toInt ∧ lB'.toInt ≤ 2400) → (0 ≤ l1'.toInt ∧ l1'.toInt ≤ 300) → (0 ≤ l2'.toInt ∧ l2'.toInt ≤ 300) → (0 ≤ l3'.toInt ∧ l3'.toInt ≤ 300) → (0 ≤ lR'.toInt ∧ lR'.toInt ≤ 258) → (F_rwC n r lR lR' (rGE (UC fH1 fH2 f41 f42 f43 f51 f52 f53) (tcC fK1 fK2) lH.toNatClampNeg lL.toInt.toNat fL n.toInt fR1' fR2' fR3') fR1' fR2' fR3' fR4 fR4' fR5 fR5' fR6 fR6') → PZ9) → PZ9) := by
  refine kMi_of (cc := cX11_rows) (maxL := 2) (ret := (some .int)) (lv := [(0, .ref oX), (1, .int n)]) (by decide +kernel) rfl rfl (Nat.le_of_ble_eq_true rfl) ?_
  intro p e s m below meth c A QQ ls hx hb hr hts hml hown hlocks hA hQQ hK hX hP hD hS hl
  have hown : s.vm.findClass RX11 = some m.cls := hown
  have hcf := k_cf hx hb hml hown hts
  have hN52 := hX
  have in_X11 : ∀ w ∈ wsX110, w ∈ wsX11_rows := fun _ h => List.mem_cons_of_mem _ (List.mem_append_left _ (List.mem_append_left _ (List.mem_append_left _ (List.mem_append_left _ (List.mem_append_left _ (List.mem_append_left _ (List.mem_append_left _ (List.mem_append_left _ (List.mem_append_left _ (List.mem_append_right _ (h)))))))))))
  replace g_l1 := hid g_l1
  replace g_l2 := hid g_l2
  replace g_l3 := hid g_l3
  replace g_lB := hid g_lB
  refine lv_aload_n hx hb dX11_rows_0 rfl (lv_at hl 0 rfl) ?_
  refine lv_iconst (v := (-1)) hx hb dX11_rows_1 (by decide) ?_
  refine va_put (D := (dC, dI)) (ci := 11) (v := .int (-1)) (ty := .int) (C := RX11) (T := TX11) (N := 12) hx hb hts in_X11 tyX11 tyX11_ok nmX11 hown hK hP hD hS 0 rfl rfl 11 (Nat.le_of_ble_eq_true rfl) (hts (.fieldLink RX11 90 "TextMender" "fault" "I") (List.mem_of_getElem? (i := 1) rfl)) (fun _ h9 => h9) rfl (tyX11_ok 11 (Nat.le_of_ble_eq_true rfl)) rfl rfl (Nat.le_of_ble_eq_true rfl) dX11_rows_2 (kW (wn := [(oX, .inr (11, [.ref nT, .ref nL, .ref nM, .ref oC, .ref oP, .ref oH, .ref oK, .ref oG, .ref oR, .ref oQ, .ref oW, .int (-1)])), (oR, .inr (9, [.ref oH, .ref oK, .ref n1, .ref n2, .ref n3, .ref r1, .ref r2, .ref r3, .ref r4, .ref r5, .ref r6, .int lR])), (r1, .inl (cI, 258, .inl fR1)), (r2, .inl (cI, 258, .inl fR2)), (r3, .inl (cI, 774, .inl fR3)), (r4, .inl (cI, 258, .inl fR4)), (r5, .inl (cI, 258, .inl fR5)), (r6, .inl (cI, 774, .inl fR6)), (n1, .inr (5, [.ref a1, .int l1])), (a1, .inl (cI, 300, .inl f1)), (n2, .inr (5, [.ref a2, .int l2])), (a2, .inl (cI, 300, .inl f2)), (n3, .inr (5, [.ref a3, .int l3])), (a3, .inl (cI, 300, .inl f3)), (oH, .inr (4, [.ref oP, .ref h1, .ref h2, .int lH])), (h1, .inl (cI, 6, .inl fH1)), (h2, .inl (cI, 6, .inl fH2)), (oP, .inr (7, [.ref oC, .ref nB, .int ft])), (nB, .inr (5, [.ref aB, .int lB])), (aB, .inl (cI, 2400, .inl fB)), (oC, .inr (2, [.ref o4, .ref o5])), (o4, .inr (10, [.ref a41, .ref a42, .ref a43, .int l4])), (a41, .inl (cI, 256, .inl f41)), (a42, .inl (cI, 512, .inl f42)), (a43, .inl (cI, 512, .inl f43)), (o5, .inr (10, [.ref a51, .ref a52, .ref a53, .int l5])), (a51, .inl (cI, 256, .inl f51)), (a52, .inl (cI, 512, .inl f52)), (a53, .inl (cI, 512, .inl f53)), (oK, .inr (3, [.ref k1, .ref k2, .int lK])), (k1, .inl (cI, 1024, .inl fK1)), (k2, .inl (cI, 1024, .inl fK2)), (nL, .inr (5, [.ref aL, .int lL])), (aL, .inl (cI, 300, .inl fL))]) rfl (fun H locs hPn hDn hSn => ?_))
  clear hP hD hS
  have hP := hPn
  have hD := hDn
  have hS := hSn
  clear hPn hDn hSn
  refine lv_iload_n hx hb dX11_rows_5 rfl (lv_at hl 1 rfl) ?_
  refine lv_iconst (v := 1) hx hb dX11_rows_6 (by decide) ?_
  refine lv_icmp_lt (tgt := 15) hx hb dX11_rows_7 (by decide) (fun c_1 => ?_) (fun c_1 => ?_)
  · have tc_1 : n.toInt < 1 := v_lt c_1
    refine lv_iconst (v := (-1)) hx hb dX11_rows_15 (by decide) ?_
    exact kl_i (v := (-1)) hQQ hx hb hr hlocks hS dX11_rows_16 (fun PZ9 kZ9 => kZ9 (-1) ft lB fB l1 f1 l2 f2 l3 f3 fR1 fR2 fR3 lR fR4 fR5 fR6 (⟨hP, hD⟩) (g_lB) (g_l1) (g_l2) (g_l3) (g_lR) (Or.inr ⟨by omega, rfl, rfl, rfl, rfl, rfl⟩))
  · have tc_1 : 1 ≤ n.toInt := v_nlt c_1
    refine lv_iload_n hx hb dX11_rows_10 rfl (lv_at hl 1 rfl) ?_
    refine lv_iconst (v := 3) hx hb dX11_rows_11 (by decide) ?_
    refine lv_icmp_le (tgt := 17) hx hb dX11_rows_12 (by decide) (fun c_2 => ?_) (fun c_2 => ?_)
    · have tc_2 : n.toInt ≤ 3 := v_le c_2
      refine lv_aload_n hx hb dX11_rows_17 rfl (lv_at hl 0 rfl) ?_
      refine va_get (D := (dC, dI)) (ci := 11) (v := .ref oR) (C := RX11) (T := TX11) (N := 12) hx hb hts in_X11 hown hK hP 0 rfl rfl 8 (Nat.le_of_ble_eq_true rfl) (hts (.fieldLink RX11 68 "TextMender" "rowBook" "LTextMender$Rows;") (List.mem_of_getElem? (i := 2) rfl)) (fun _ h9 => h9) rfl dX11_rows_18 ?_
      refine lv_iload_n hx hb dX11_rows_21 rfl (lv_at hl 1 rfl) ?_
      refine lv_aload_n hx hb dX11_rows_22 rfl (lv_at hl 0 rfl) ?_
      refine va_get (D := (dC, dI)) (ci := 11) (v := .ref nL) (C := RX11) (T := TX11) (N := 12) hx hb hts in_X11 hown hK hP 0 rfl rfl 1 (Nat.le_of_ble_eq_true rfl) (hts (.fieldLink RX11 34 "TextMender" "letters" "LTextMender$Numbers;") (List.mem_of_getElem? (i := 3) rfl)) (fun _ h9 => h9) rfl dX11_rows_23 ?_
      refine kV_v (rest := []) (q0 := 0) (ci := 9) hcf (f_X9_find l dC dI cI cS H.size oR nL oH oK n1 n2 n3 r1 r2 r3 r4 r5 r6 a1 a2 a3 oP h1 h2 oC nB aB o4 o5 a41 a42 a43 a51 a52 a53 k1 k2 aL lR fR1 fR2 fR3 l1 f1 l2 f2 l3 f3 lH fH1 fH2 ft lB fB l4 f41 f42 f43 l5 f51 f52 f53 lK fK1 fK2 lL fL n (g_lR) (g_l1) (g_l2) (g_l3) (g_lH) (g_lB) (g_lK) (g_lL) (by omega) (hlt) (hT4) (ho4) (hT5) (ho5) (hL4) (hL5) (hBr) (hT) (ho) (hV)) kc_X9_find gX11_rows_X9_find rfl rfl rfl ⟨Nat.le_of_ble_eq_true rfl, Nat.le_of_ble_eq_true rfl⟩ (kX_1 hN52) hK hP hD hS hA (posT mk_139 0) (posF mk_139 0) (kC_of mk_139 rfl rfl) (by decide +kernel) rfl rfl rfl hl rfl (Nat.le_of_ble_eq_true rfl) dX11_rows_26 ⟨Nat.le_of_ble_eq_true rfl, Nat.le_of_ble_eq_true rfl⟩ (fun H locs hB hJ hSn => ?_)
      refine hB _ (fun ft_3 lB_3 fB_3 l1_3 f1_3 l2_3 f2_3 l3_3 f3_3 fR1_3 fR2_3 fR3_3 hPD9 hf3_0 hf3_1 hf3_2 hf3_3 hf3_4 => ?_)
      clear hB
      obtain ⟨hPn, hDn⟩ := kJi (m := mk_139) hJ rfl hPD9.1 hPD9.2 (wn := [(oX, .inr (11, [.ref nT, .ref nL, .ref nM, .ref oC, .ref oP, .ref oH, .ref oK, .ref oG, .ref oR, .ref oQ, .ref oW, .int (-1)])), (oR, .inr (9, [.ref oH, .ref oK, .ref n1, .ref n2, .ref n3, .ref r1, .ref r2, .ref r3, .ref r4, .ref r5, .ref r6, .int lR])), (r1, .inl (cI, 258, .inl fR1_3)), (r2, .inl (cI, 258, .inl fR2_3)), (r3, .inl (cI, 774, .inl fR3_3)), (r4, .inl (cI, 258, .inl fR4)), (r5, .inl (cI, 258, .inl fR5)), (r6, .inl (cI, 774, .inl fR6)), (n1, .inr (5, [.ref a1, .int l1_3])), (a1, .inl (cI, 300, .inl f1_3)), (n2, .inr (5, [.ref a2, .int l2_3])), (a2, .inl (cI, 300, .inl f2_3)), (n3, .inr (5, [.ref a3, .int l3_3])), (a3, .inl (cI, 300, .inl f3_3)), (oH, .inr (4, [.ref oP, .ref h1, .ref h2, .int lH])), (h1, .inl (cI, 6, .inl fH1)), (h2, .inl (cI, 6, .inl fH2)), (oP, .inr (7, [.ref oC, .ref nB, .int ft_3])), (nB, .inr (5, [.ref aB, .int lB_3])), (aB, .inl (cI, 2400, .inl fB_3)), (oC, .inr (2, [.ref o4, .ref o5])), (o4, .inr (10, [.ref a41, .ref a42, .ref a43, .int l4])), (a41, .inl (cI, 256, .inl f41)), (a42, .inl (cI, 512, .inl f42)), (a43, .inl (cI, 512, .inl f43)), (o5, .inr (10, [.ref a51, .ref a52, .ref a53, .int l5])), (a51, .inl (cI, 256, .inl f51)), (a52, .inl (cI, 512, .inl f52)), (a53, .inl (cI, 512, .inl f53)), (oK, .inr (3, [.ref k1, .ref k2, .int lK])), (k1, .inl (cI, 1024, .inl fK1)), (k2, .inl (cI, 1024, .inl fK2)), (nL, .inr (5, [.ref aL, .int lL])), (aL, .inl (cI, 300, .inl fL))]) rfl
      clear hP hD hS hJ hPD9
      have hP := hPn
      have hD := hDn
      have hS := hSn
      clear hPn hDn hSn
      refine lv_aload_n hx hb dX11_rows_29 rfl (lv_at hl 0 rfl) ?_
      refine va_get (D := (dC, dI)) (ci := 11) (v := .ref oR) (C := RX11) (T := TX11) (N := 12) hx hb hts in_X11 hown hK hP 0 rfl rfl 8 (Nat.le_of_ble_eq_true rfl) (hts (.fieldLink RX11 68 "TextMender" "rowBook" "LTextMender$Rows;") (List.mem_of_getElem? (i := 2) rfl)) (fun _ h9 => h9) rfl dX11_rows_30 ?_
      refine kV_i (rest := []) (q0 := 0) (ci := 9) hcf (f_X9_keepFound l dC dI cI cS H.size oR oH oK n1 n2 n3 r1 r2 r3 r4 r5 r6 lR fR1_3 fR2_3 fR3_3 fR4 fR5 fR6 (g_lR)) kc_X9_keepFound gX11_rows_X9_keepFound rfl rfl rfl ⟨Nat.le_of_ble_eq_true rfl, Nat.le_of_ble_eq_true rfl⟩ kX_t hK hP hD hS hA (posT mk_140 0) (posF mk_140 0) (kC_of mk_140 rfl rfl) (by decide +kernel) rfl rfl rfl hl rfl (Nat.le_of_ble_eq_true rfl) dX11_rows_33 ⟨Nat.le_of_ble_eq_true rfl, Nat.le_of_ble_eq_true rfl⟩ (fun r_4 H locs hB hJ hSn => ?_)
      refine hB _ (fun lR_4 fR4_4 fR5_4 fR6_4 hPD9 hf4_0 hf4_1 hf4_2 => ?_)
      clear hB
      obtain ⟨hPn, hDn⟩ := kJi (m := mk_140) hJ rfl hPD9.1 hPD9.2 (wn := [(oX, .inr (11, [.ref nT, .ref nL, .ref nM, .ref oC, .ref oP, .ref oH, .ref oK, .ref oG, .ref oR, .ref oQ, .ref oW, .int (-1)])), (oR, .inr (9, [.ref oH, .ref oK, .ref n1, .ref n2, .ref n3, .ref r1, .ref r2, .ref r3, .ref r4, .ref r5, .ref r6, .int lR_4])), (r1, .inl (cI, 258, .inl fR1_3)), (r2, .inl (cI, 258, .inl fR2_3)), (r3, .inl (cI, 774, .inl fR3_3)), (r4, .inl (cI, 258, .inl fR4_4)), (r5, .inl (cI, 258, .inl fR5_4)), (r6, .inl (cI, 774, .inl fR6_4)), (n1, .inr (5, [.ref a1, .int l1_3])), (a1, .inl (cI, 300, .inl f1_3)), (n2, .inr (5, [.ref a2, .int l2_3])), (a2, .inl (cI, 300, .inl f2_3)), (n3, .inr (5, [.ref a3, .int l3_3])), (a3, .inl (cI, 300, .inl f3_3)), (oH, .inr (4, [.ref oP, .ref h1, .ref h2, .int lH])), (h1, .inl (cI, 6, .inl fH1)), (h2, .inl (cI, 6, .inl fH2)), (oP, .inr (7, [.ref oC, .ref nB, .int ft_3])), (nB, .inr (5, [.ref aB, .int lB_3])), (aB, .inl (cI, 2400, .inl fB_3)), (oC, .inr (2, [.ref o4, .ref o5])), (o4, .inr (10, [.ref a41, .ref a42, .ref a43, .int l4])), (a41, .inl (cI, 256, .inl f41)), (a42, .inl (cI, 512, .inl f42)), (a43, .inl (cI, 512, .inl f43)), (o5, .inr (10, [.ref a51, .ref a52, .ref a53, .int l5])), (a51, .inl (cI, 256, .inl f51)), (a52, .inl (cI, 512, .inl f52)), (a53, .inl (cI, 512, .inl f53)), (oK, .inr (3, [.ref k1, .ref k2, .int lK])), (k1, .inl (cI, 1024, .inl fK1)), (k2, .inl (cI, 1024, .inl fK2)), (nL, .inr (5, [.ref aL, .int lL])), (aL, .inl (cI, 300, .inl fL))]) rfl
      clear hP hD hS hJ hPD9
      have hP := hPn
      have hD := hDn
      have hS := hSn
      clear hPn hDn hSn
      exact kl_i (v := r_4) hQQ hx hb hr hlocks hS dX11_rows_36 (fun PZ9 kZ9 => kZ9 (-1) ft_3 lB_3 fB_3 l1_3 f1_3 l2_3 f2_3 l3_3 f3_3 fR1_3 fR2_3 fR3_3 lR_4 fR4_4 fR5_4 fR6_4 (⟨hP, hD⟩) (hf3_0) (hf3_1) (hf3_2) (hf3_3) (hf4_0) (Or.inl ⟨by omega, hf3_4, hf4_2, by omega⟩))
    · have tc_2 : 3 < n.toInt := v_nle c_2
      refine lv_iconst (v := (-1)) hx hb dX11_rows_15 (by decide) ?_
      exact kl_i (v := (-1)) hQQ hx hb hr hlocks hS dX11_rows_16 (fun PZ9 kZ9 => kZ9 (-1) ft lB fB l1 f1 l2 f2 l3 f3 fR1 fR2 fR3 lR fR4 fR5 fR6 (⟨hP, hD⟩) (g_lB) (g_l1) (g_l2) (g_l3) (g_lR) (Or.inr ⟨by omega, rfl, rfl, rfl, rfl, rfl⟩))

set_option maxHeartbeats 40000000 in
set_option maxRecDepth 100000 in
theorem f_X12_rows (l : Launch) (dC : Nat → ClassId) (dI : Nat → Nat → Nat) (cI cS : ClassId) (sz : Nat) (oM : Nat) (mT : Nat) (mS : Nat) (mX : Nat) (mL : Nat) (mB : Nat) (mD : Nat) (m1 : Nat) (m2 : Nat) (mR : Nat) (x1 : Nat) (x2 : Nat) (x3 : Nat) (mH : Nat) (mY : Nat) (mE : Nat) (mW : Nat) (mO : Nat) (y1 : Nat) (y2 : Nat) (y3 : Nat) (y4 : Nat) (mZ : Nat) (zt : Int32) (zp : Int32) (zf : Int32) (zh : Int32) (zr : Int32) (zc : Int32) (zy : Int32) (za : Int32) (zb : Int32) (zs : Int32) (zq : Int32) (zw : Int32) (ze : Int32) (zn : Int32) (zm : Int32) (zl : Int32) (zk : Int32) (zd : Int32) (eY : Nat → Int32) (eB : Nat → Int32) (eL : Nat → Int32) (eE : Nat → Int32) (eW : Nat → Int32) (eO : Nat → Int32) (eS : Nat → Int32) (eX : Nat → Int32) (e1 : Nat → Int32) (e2 : Nat → Int32) (eR : Nat → Int32) (ec1 : Nat → Int32) (ec2 : Nat → Int32) (ec3 : Nat → Int32) (n : Int32) (g_zt : 0 ≤ zt.toInt ∧ zt.toInt ≤ 900) (g_zp : 0 ≤ zp.toInt ∧ zp.toInt ≤ 20) (g_zf : 0 ≤ zf.toInt ∧ zf.toInt ≤ 19) (g_zh : 0 ≤ zh.toInt ∧ zh.toInt ≤ 6) (g_zr : 0 ≤ zr.toInt ∧ zr.toInt ≤ 258) (g_zc : 0 ≤ zc.toInt ∧ zc.toInt ≤ 300) (g_zy : 0 ≤ zy.toInt ∧ zy.toInt ≤ 65536) (g_za : 0 ≤ za.toInt ∧ za.toInt ≤ 5) (g_zb : 0 ≤ zb.toInt ∧ zb.toInt ≤ 5) (g_zs : 0 ≤ zs.toInt ∧ zs.toInt ≤ 2000000) (g_zq : -1 ≤ zq.toInt ∧ zq.toInt ≤ 2000000) (g_zn : 0 ≤ zn.toInt ∧ zn.toInt ≤ 2600) (g_zm : 0 ≤ zm.toInt ∧ zm.toInt ≤ 2600) (g_zk : 0 ≤ zk.toInt ∧ zk.toInt ≤ 300) (g_eY : rg 0 255 eY) (g_eB : rg (-1) 255 eB) (g_eL : rg (-1) 65535 eL) (g_eE : rg 0 65535 eE) (g_eW : rg 0 65535 eW) (g_eO : rg 0 65535 eO) (g_eS : rg 0 300 eS) (g_eX : rg 0 65535 eX) (g_e1 : rg 0 5 e1) (g_e2 : rg 0 5 e2) (hxl : ∀ j : Nat, (j : Int) < (eS 0).toInt → isLz (eX j)) (hlb : LBr eL eB) (hlz : LZ eL) (hV : rg 0 200 ec3) (hzs : zs.toInt ≤ 1000000) : kMi l yX12_rows wsX12_rows ({ frames := 6, cells := 0, slots := 0, locals := 145 } : Room) [.ref oM, .int n] sz (dC, dI) vwCl [(cI, .int), (cS, .short)] [(oM, .inr (12, [.ref mT, .int zt, .ref mS, .ref mX, .int zp, .int zf, .ref mL, .ref mB, .ref mD, .ref m1, .ref m2, .int zh, .ref mR, .int zr, .ref x1, .ref x2, .ref x3, .int zc, .ref mH, .int zy, .int za, .int zb, .int zs, .int zq, .int zw, .int ze, .ref mY, .int zn, .ref mE, .int zm, .int zl, .ref mW, .int zk, .ref mO, .int zd, .ref y1, .ref y2, .ref y3, .ref y4, .ref mZ])), (mY, .inl (cI, 2600, .inl eY)), (mB, .inl (cS, 131072, .inl eB)), (mL, .inl (cI, 512, .inl eL)), (mE, .inl (cI, 2600, .inl eE)), (mW, .inl (cI, 300, .inl eW)), (mO, .inl (cI, 300, .inl eO)), (mS, .inl (cI, 21, .inl eS)), (mX, .inl (cI, 6300, .inl eX)), (m1, .inl (cI, 6, .inl e1)), (m2, .inl (cI, 6, .inl e2)), (mR, .inl (cI, 1548, .inl eR)), (x1, .inl (cI, 300, .inl ec1)), (x2, .inl (cI, 300, .inl ec2)), (x3, .inl (cI, 300, .inl ec3))] (fun _ => True) 0 0 (fun (A : Nat → Prop) (r : Int32) (hh9 : Heap) => ∀ PZ9 : Prop, (∀ (ze' : Int32) (zw' : Int32) (zr' : Int32) (eR' : Nat → Int32) (zn' : Int32) (eY' : Nat → Int32) (zd' : Int32) (zm' : Int32) (zl' : Int32) (eE' : Nat → Int32) (zk' : Int32) (eW' : Nat → Int32) (eO' : Nat → Int32), kPD (dC, dI) vwCl A [(oM, .inr (12, [.ref mT, .int zt, .ref mS, .ref mX, .int zp, .int zf, .ref mL, .ref mB, .ref mD, .ref m1, .ref m2, .int zh, .ref mR, .int zr', .ref x1, .ref x2, .ref x3, .int zc, .ref mH, .int zy, .int za, .int zb, .int zs, .int zq, .int zw', .int ze', .ref mY, .int zn', .ref mE, .int zm', .int zl', .ref mW, .int zk', .ref mO, .int zd', .ref y1, .ref y2, .ref y3, .ref y4, .ref mZ])), (mY, .inl (cI, 2600, .inl eY')), (mB, .inl (cS, 131072, .inl eB)), (mL, .inl (cI, 512, .inl eL)), (mE, .inl (cI, 2600, .inl eE')), (mW, .inl (cI, 300, .inl eW')), (mO, .inl (cI, 300, .inl eO')), (mS, .inl (cI, 21, .inl eS)), (mX, .inl (cI, 6300, .inl eX)), (m1, .inl (cI, 6, .inl e1)), (m2, .inl (cI, 6, .inl e2)), (mR, .inl (cI, 1548, .inl eR')), (x1, .inl (cI, 300, .inl ec1)), (x2, .inl (cI, 300, .inl ec2)), (x3, .inl (cI, 300, .inl ec3))] hh9 → (0 ≤ zr'.toInt ∧ zr'.toInt ≤ 258) → (0 ≤ zn'.toInt ∧ zn'.toInt ≤ 2600) → (rg 0 255 eY') → (0 ≤ zm'.toInt ∧ zm'.toInt ≤ 2600) → (rg 0 65535 eE') → (0 ≤ zk'.toInt ∧ zk'.toInt ≤ 300) → (rg 0 65535 eW') → (rg 0 65535 eO') → (∀ R1 R2 R3 : Nat → Int32, (1 ≤ n.toInt ∧ n.toInt ≤ 3 → rGE (UR e1 e2 eL eB) (tcR zc.toInt ec1 ec2 ec3) zh.toNatClampNeg (eS 0).toInt.toNat eX n.toInt R1 R2 R3) → F_rwR n r zr zr' R1 R2 R3 eR eR') → PZ9) → PZ9) := by
  refine kMi_of (cc := cX12_rows) (maxL := 7) (ret := (some .int)) (lv := [(0, .ref oM), (1, .int n)]) (by decide +kernel) rfl rfl (Nat.le_of_ble_eq_true rfl) ?_
  intro p e s m below meth c A QQ ls hx hb hr hts hml hown hlocks hA hQQ hK hX hP hD hS hl
  have hown : s.vm.findClass RX12 = some m.cls := hown
  have hcf := k_cf hx hb hml hown hts
  have in_X12 : ∀ w ∈ wsX120, w ∈ wsX12_rows := fun _ h => List.mem_cons_of_mem _ (List.mem_append_left _ (List.mem_append_left _ (List.mem_append_left _ (List.mem_append_right _ (h)))))
  replace g_zt := hid g_zt
  replace g_zp := hid g_zp
  replace g_zf := hid g_zf
  replace g_zy := hid g_zy
  replace g_za := hid g_za
  replace g_zb := hid g_zb
  replace g_zs := hid g_zs
  replace g_zq := hid g_zq
  replace g_zn := hid g_zn
  replace g_zm := hid g_zm
  replace g_zk := hid g_zk
  have hU : okU (UR e1 e2 eL eB) := okU_R g_eB g_eL
  have hlb9 := hlb
  have z0 : (0 : Int32).toInt = 0 := rfl
  have z1 : (1 : Int32).toInt = 1 := rfl
  have zm1 : (-1 : Int32).toInt = -1 := rfl
  have cz0 := v_clamp (x := zh) (by omega)
  have gS0 := g_eS 0
  have hs3 : (eS 0).toInt.toNat ≤ 300 := by omega
  have hx9 : prg (((eS 0).toInt.toNat : Nat) : Int) 0 65535 eX := rg_prg g_eX
  refine lv_aload_n hx hb dX12_rows_0 rfl (lv_at hl 0 rfl) ?_
  refine lv_iconst (v := 0) hx hb dX12_rows_1 (by decide) ?_
  refine va_put (D := (dC, dI)) (ci := 12) (v := .int 0) (ty := .int) (C := RX12) (T := TX12) (N := 40) hx hb hts in_X12 tyX12 tyX12_ok nmX12 hown hK hP hD hS 0 rfl rfl 25 (Nat.le_of_ble_eq_true rfl) (hts (.fieldLink RX12 85 "TextMenderModel" "thrown" "I") (List.mem_of_getElem? (i := 1) rfl)) (fun _ h9 => h9) rfl (tyX12_ok 25 (Nat.le_of_ble_eq_true rfl)) rfl rfl (Nat.le_of_ble_eq_true rfl) dX12_rows_2 (kW (wn := [(oM, .inr (12, [.ref mT, .int zt, .ref mS, .ref mX, .int zp, .int zf, .ref mL, .ref mB, .ref mD, .ref m1, .ref m2, .int zh, .ref mR, .int zr, .ref x1, .ref x2, .ref x3, .int zc, .ref mH, .int zy, .int za, .int zb, .int zs, .int zq, .int zw, .int 0, .ref mY, .int zn, .ref mE, .int zm, .int zl, .ref mW, .int zk, .ref mO, .int zd, .ref y1, .ref y2, .ref y3, .ref y4, .ref mZ])), (mY, .inl (cI, 2600, .inl eY)), (mB, .inl (cS, 131072, .inl eB)), (mL, .inl (cI, 512, .inl eL)), (mE, .inl (cI, 2600, .inl eE)), (mW, .inl (cI, 300, .inl eW)), (mO, .inl (cI, 300, .inl eO)), (mS, .inl (cI, 21, .inl eS)), (mX, .inl (cI, 6300, .inl eX)), (m1, .inl (cI, 6, .inl e1)), (m2, .inl (cI, 6, .inl e2)), (mR, .inl (cI, 1548, .inl eR)), (x1, .inl (cI, 300, .inl ec1)), (x2, .inl (cI, 300, .inl ec2)), (x3, .inl (cI, 300, .inl ec3))]) rfl (fun H locs hPn hDn hSn => ?_))
  clear hP hD hS
  have hP := hPn
  have hD := hDn
  have hS := hSn
  clear hPn hDn hSn
  refine lv_aload_n hx hb dX12_rows_5 rfl (lv_at hl 0 rfl) ?_
  refine lv_iconst (v := (-1)) hx hb dX12_rows_6 (by decide) ?_
  refine va_put (D := (dC, dI)) (ci := 12) (v := .int (-1)) (ty := .int) (C := RX12) (T := TX12) (N := 40) hx hb hts in_X12 tyX12 tyX12_ok nmX12 hown hK hP hD hS 0 rfl rfl 24 (Nat.le_of_ble_eq_true rfl) (hts (.fieldLink RX12 55 "TextMenderModel" "where" "I") (List.mem_of_getElem? (i := 2) rfl)) (fun _ h9 => h9) rfl (tyX12_ok 24 (Nat.le_of_ble_eq_true rfl)) rfl rfl (Nat.le_of_ble_eq_true rfl) dX12_rows_7 (kW (wn := [(oM, .inr (12, [.ref mT, .int zt, .ref mS, .ref mX, .int zp, .int zf, .ref mL, .ref mB, .ref mD, .ref m1, .ref m2, .int zh, .ref mR, .int zr, .ref x1, .ref x2, .ref x3, .int zc, .ref mH, .int zy, .int za, .int zb, .int zs, .int zq, .int (-1), .int 0, .ref mY, .int zn, .ref mE, .int zm, .int zl, .ref mW, .int zk, .ref mO, .int zd, .ref y1, .ref y2, .ref y3, .ref y4, .ref mZ])), (mY, .inl (cI, 2600, .inl eY)), (mB, .inl (cS, 131072, .inl eB)), (mL, .inl (cI, 512, .inl eL)), (mE, .inl (cI, 2600, .inl eE)), (mW, .inl (cI, 300, .inl eW)), (mO, .inl (cI, 300, .inl eO)), (mS, .inl (cI, 21, .inl eS)), (mX, .inl (cI, 6300, .inl eX)), (m1, .inl (cI, 6, .inl e1)), (m2, .inl (cI, 6, .inl e2)), (mR, .inl (cI, 1548, .inl eR)), (x1, .inl (cI, 300, .inl ec1)), (x2, .inl (cI, 300, .inl ec2)), (x3, .inl (cI, 300, .inl ec3))]) rfl (fun H locs hPn hDn hSn => ?_))
  clear hP hD hS
  have hP := hPn
  have hD := hDn
  have hS := hSn
  clear hPn hDn hSn
  refine lv_iload_n hx hb dX12_rows_10 rfl (lv_at hl 1 rfl) ?_
  refine lv_iconst (v := 1) hx hb dX12_rows_11 (by decide) ?_
  refine lv_icmp_lt (tgt := 20) hx hb dX12_rows_12 (by decide) (fun c_1 => ?_) (fun c_1 => ?_)
  · have tc_1 : n.toInt < 1 := v_lt c_1
    refine lv_iconst (v := (-1)) hx hb dX12_rows_20 (by decide) ?_
    exact kl_i (v := (-1)) hQQ hx hb hr hlocks hS dX12_rows_21 (fun PZ9 kZ9 => kZ9 0 (-1) zr eR zn eY zd zm zl eE zk eW eO (⟨hP, hD⟩) (g_zr) (g_zn) (g_eY) (g_zm) (g_eE) (g_zk) (g_eW) (g_eO) (fun R1 R2 R3 hR => Or.inr ⟨by omega, rfl, rfl, rfl⟩))
  · have tc_1 : 1 ≤ n.toInt := v_nlt c_1
    refine lv_iload_n hx hb dX12_rows_15 rfl (lv_at hl 1 rfl) ?_
    refine lv_iconst (v := 3) hx hb dX12_rows_16 (by decide) ?_
    refine lv_icmp_le (tgt := 22) hx hb dX12_rows_17 (by decide) (fun c_2 => ?_) (fun c_2 => ?_)
    · have tc_2 : n.toInt ≤ 3 := v_le c_2
      refine lv_aload_n hx hb dX12_rows_22 rfl (lv_at hl 0 rfl) ?_
      refine lv_iconst (v := 0) hx hb dX12_rows_23 (by decide) ?_
      refine va_put (D := (dC, dI)) (ci := 12) (v := .int 0) (ty := .int) (C := RX12) (T := TX12) (N := 40) hx hb hts in_X12 tyX12 tyX12_ok nmX12 hown hK hP hD hS 0 rfl rfl 13 (Nat.le_of_ble_eq_true rfl) (hts (.fieldLink RX12 180 "TextMenderModel" "rowMany" "I") (List.mem_of_getElem? (i := 3) rfl)) (fun _ h9 => h9) rfl (tyX12_ok 13 (Nat.le_of_ble_eq_true rfl)) rfl rfl (Nat.le_of_ble_eq_true rfl) dX12_rows_24 (kW (wn := [(oM, .inr (12, [.ref mT, .int zt, .ref mS, .ref mX, .int zp, .int zf, .ref mL, .ref mB, .ref mD, .ref m1, .ref m2, .int zh, .ref mR, .int 0, .ref x1, .ref x2, .ref x3, .int zc, .ref mH, .int zy, .int za, .int zb, .int zs, .int zq, .int (-1), .int 0, .ref mY, .int zn, .ref mE, .int zm, .int zl, .ref mW, .int zk, .ref mO, .int zd, .ref y1, .ref y2, .ref y3, .ref y4, .ref mZ])), (mY, .inl (cI, 2600, .inl eY)), (mB, .inl (cS, 131072, .inl eB)), (mL, .inl (cI, 512, .inl eL)), (mE, .inl (cI, 2600, .inl eE)), (mW, .inl (cI, 300, .inl eW)), (mO, .inl (cI, 300, .inl eO)), (mS, .inl (cI, 21, .inl eS)), (mX, .inl (cI, 6300, .inl eX)), (m1, .inl (cI, 6, .inl e1)), (m2, .inl (cI, 6, .inl e2)), (mR, .inl (cI, 1548, .inl eR)), (x1, .inl (cI, 300, .inl ec1)), (x2, .inl (cI, 300, .inl ec2)), (x3, .inl (cI, 300, .inl ec3))]) rfl (fun H locs hPn hDn hSn => ?_))
      clear hP hD hS
      have hP := hPn
      have hD := hDn
      have hS := hSn
      clear hPn hDn hSn
      refine lv_iconst (v := 1) hx hb dX12_rows_27 (by decide) ?_
      refine lv_istore_n (lv' := [(2, .int 1), (0, .ref oM), (1, .int n)]) hx hb dX12_rows_28 rfl hl (by decide) rfl (fun ls hl => ?_)
      have LOOP_29 : ∀ (k_29 : Nat) (my : Int32) (zna : Int32) (zda : Int32) (zma : Int32) (zla : Int32) (zka : Int32) (zra : Int32) (eYa : Nat → Int32) (eEa : Nat → Int32) (eWa : Nat → Int32) (eOa : Nat → Int32) (eRa : Nat → Int32) (H : Heap) (locs : List Loc) (ls : Array Slot), MSd (4 - my.toInt : Int) k_29 → (1 ≤ my.toInt ∧ my.toInt ≤ 4) → (0 ≤ zna.toInt ∧ zna.toInt ≤ 2600) → (0 ≤ zma.toInt ∧ zma.toInt ≤ 2600) → (0 ≤ zka.toInt ∧ zka.toInt ≤ 300) → (0 ≤ zra.toInt ∧ zra.toInt ≤ 258) → (rg 0 255 eYa) → (rg 0 65535 eEa) → (rg 0 65535 eWa) → (rg 0 65535 eOa) → ((my.toInt = 1 ∧ zra.toInt = 0) ∨ (my.toInt = 2 ∧ zra.toInt ≤ 6) ∨ (my.toInt = 3 ∧ zra.toInt ≤ 42) ∨ (my.toInt = 4 ∧ zra.toInt ≤ 258)) → (my.toInt ≤ n.toInt + 1) → (∀ R1 R2 R3 : Nat → Int32, rGE (UR e1 e2 eL eB) (tcR zc.toInt ec1 ec2 ec3) zh.toNatClampNeg (eS 0).toInt.toNat eX n.toInt R1 R2 R3 → RWT R1 R2 R3 eRa (roff zh.toNatClampNeg my.toNatClampNeg) zra.toInt) → va_P (dC, dI) vwCl [(oM, .inr (12, [.ref mT, .int zt, .ref mS, .ref mX, .int zp, .int zf, .ref mL, .ref mB, .ref mD, .ref m1, .ref m2, .int zh, .ref mR, .int zra, .ref x1, .ref x2, .ref x3, .int zc, .ref mH, .int zy, .int za, .int zb, .int zs, .int zq, .int (-1), .int 0, .ref mY, .int zna, .ref mE, .int zma, .int zla, .ref mW, .int zka, .ref mO, .int zda, .ref y1, .ref y2, .ref y3, .ref y4, .ref mZ])), (mY, .inl (cI, 2600, .inl eYa)), (mB, .inl (cS, 131072, .inl eB)), (mL, .inl (cI, 512, .inl eL)), (mE, .inl (cI, 2600, .inl eEa)), (mW, .inl (cI, 300, .inl eWa)), (mO, .inl (cI, 300, .inl eOa)), (mS, .inl (cI, 21, .inl eS)), (mX, .inl (cI, 6300, .inl eX)), (m1, .inl (cI, 6, .inl e1)), (m2, .inl (cI, 6, .inl e2)), (mR, .inl (cI, 1548, .inl eRa)), (x1, .inl (cI, 300, .inl ec1)), (x2, .inl (cI, 300, .inl ec2)), (x3, .inl (cI, 300, .inl ec3))] H → va_D A [(oM, .inr (12, [.ref mT, .int zt, .ref mS, .ref mX, .int zp, .int zf, .ref mL, .ref mB, .ref mD, .ref m1, .ref m2, .int zh, .ref mR, .int zra, .ref x1, .ref x2, .ref x3, .int zc, .ref mH, .int zy, .int za, .int zb, .int zs, .int zq, .int (-1), .int 0, .ref mY, .int zna, .ref mE, .int zma, .int zla, .ref mW, .int zka, .ref mO, .int zda, .ref y1, .ref y2, .ref y3, .ref y4, .ref mZ])), (mY, .inl (cI, 2600, .inl eYa)), (mB, .inl (cS, 131072, .inl eB)), (mL, .inl (cI, 512, .inl eL)), (mE, .inl (cI, 2600, .inl eEa)), (mW, .inl (cI, 300, .inl eWa)), (mO, .inl (cI, 300, .inl eOa)), (mS, .inl (cI, 21, .inl eS)), (mX, .inl (cI, 6300, .inl eX)), (m1, .inl (cI, 6, .inl e1)), (m2, .inl (cI, 6, .inl e2)), (mR, .inl (cI, 1548, .inl eRa)), (x1, .inl (cI, 300, .inl ec1)), (x2, .inl (cI, 300, .inl ec2)), (x3, .inl (cI, 300, .inl ec3))] → va_S A s.heap H locs → lv_has ls 7 [(2, .int my), (0, .ref oM), (1, .int n)] → W p l e (headSpec wsX12_rows ({ frames := 6, cells := 0, slots := 0, locals := 145 } : Room)).room s m ([.ref oM, .int n] : List Value).toArray below meth c H locs 0 0 (MQ below QQ ([.ref oM, .int n] : List Value).toArray s 0 0 A) (F0 m 29 ls []) := by
        clear hP hD hS hl
        try (clear hzs)
        intro k_29
        induction k_29 with
        | zero =>
          intro my zna zda zma zla zka zra eYa eEa eWa eOa eRa H locs ls hm_29 g_my g_zna g_zma g_zka g_zra g_eYa g_eEa g_eWa g_eOa hro hmn hmo hP hD hS hl
          exact ms_0 hm_29
        | succ k_29 ih_29 =>
          intro my zna zda zma zla zka zra eYa eEa eWa eOa eRa H locs ls hm_29 g_my g_zna g_zma g_zka g_zra g_eYa g_eEa g_eWa g_eOa hro hmn hmo hP hD hS hl
          refine lv_iload_n hx hb dX12_rows_29 rfl (lv_at hl 0 rfl) ?_
          refine lv_iload_n hx hb dX12_rows_30 rfl (lv_at hl 2 rfl) ?_
          refine lv_icmp_gt (tgt := 208) hx hb dX12_rows_31 (by decide) (fun c_3 => ?_) (fun c_3 => ?_)
          · have tc_3 : n.toInt < my.toInt := v_lt c_3
            have cn9 := v_clamp (x := n) (by omega)
            have hPe : roff zh.toNatClampNeg my.toNatClampNeg = roff zh.toNatClampNeg (n.toNatClampNeg + 1) := by rw [ix_eq (x := my) (N := n.toNatClampNeg + 1) (by omega)]
            refine lv_aload_n hx hb dX12_rows_208 rfl (lv_at hl 1 rfl) ?_
            refine va_get (D := (dC, dI)) (ci := 12) (v := .int zra) (C := RX12) (T := TX12) (N := 40) hx hb hts in_X12 hown hK hP 0 rfl rfl 13 (Nat.le_of_ble_eq_true rfl) (hts (.fieldLink RX12 180 "TextMenderModel" "rowMany" "I") (List.mem_of_getElem? (i := 3) rfl)) (fun _ h9 => h9) rfl dX12_rows_209 ?_
            exact kl_i (v := zra) hQQ hx hb hr hlocks hS dX12_rows_212 (fun PZ9 kZ9 => kZ9 0 (-1) zra eRa zna eYa zda zma zla eEa zka eWa eOa (⟨hP, hD⟩) (g_zra) (g_zna) (g_eYa) (g_zma) (g_eEa) (g_zka) (g_eWa) (g_eOa) (fun R1 R2 R3 hR9 => Or.inl ⟨by omega, RWT_end (hR9 (by omega)) (by omega) (N := n.toNatClampNeg) (by omega) (by omega) hPe (hmo R1 R2 R3 (hR9 (by omega))), rfl⟩))
          · have tc_3 : my.toInt ≤ n.toInt := v_nlt c_3
            have cmy := v_clamp (x := my) (by omega)
            have hmy3 := roff_s (z := zh.toNatClampNeg) (k := my.toNatClampNeg) (by omega) (by omega)
            refine lv_aload_n hx hb dX12_rows_34 rfl (lv_at hl 1 rfl) ?_
            refine va_get (D := (dC, dI)) (ci := 12) (v := .int zh) (C := RX12) (T := TX12) (N := 40) hx hb hts in_X12 hown hK hP 0 rfl rfl 11 (Nat.le_of_ble_eq_true rfl) (hts (.fieldLink RX12 161 "TextMenderModel" "harms" "I") (List.mem_of_getElem? (i := 4) rfl)) (fun _ h9 => h9) rfl dX12_rows_35 ?_
            refine lv_if_ne (tgt := 45) hx hb dX12_rows_38 (by decide) (fun c_4 => ?_) (fun c_4 => ?_)
            · have tc_4 : ¬ zh.toInt = 0 := v_ne c_4
              refine lv_aload_n hx hb dX12_rows_45 rfl (lv_at hl 1 rfl) ?_
              refine va_get (D := (dC, dI)) (ci := 12) (v := .int zh) (C := RX12) (T := TX12) (N := 40) hx hb hts in_X12 hown hK hP 0 rfl rfl 11 (Nat.le_of_ble_eq_true rfl) (hts (.fieldLink RX12 161 "TextMenderModel" "harms" "I") (List.mem_of_getElem? (i := 4) rfl)) (fun _ h9 => h9) rfl dX12_rows_46 ?_
              refine lv_iload_n hx hb dX12_rows_49 rfl (lv_at hl 0 rfl) ?_
              refine kS_i (rest := []) hcf (f_X12_power l dC dI cI cS H.size zh my (by omega) (by omega)) kc_X12_power gX12_rows_X12_power rfl rfl ⟨Nat.le_of_ble_eq_true rfl, Nat.le_of_ble_eq_true rfl⟩ kX_t hK hP hD hS hA (posT mk_172 0) (posF mk_172 0) (kC_of mk_172 rfl rfl) (by decide +kernel) rfl hl rfl (Nat.le_of_ble_eq_true rfl) dX12_rows_50 ⟨Nat.le_of_ble_eq_true rfl, Nat.le_of_ble_eq_true rfl⟩ (fun r_5 H locs hB hJ hSn => ?_)
              refine hB _ (fun hPD9 hf5_0 hf5_1 hf5_2 => ?_)
              clear hB
              obtain ⟨hPn, hDn⟩ := kJi (m := mk_172) hJ rfl hPD9.1 hPD9.2 (wn := [(oM, .inr (12, [.ref mT, .int zt, .ref mS, .ref mX, .int zp, .int zf, .ref mL, .ref mB, .ref mD, .ref m1, .ref m2, .int zh, .ref mR, .int zra, .ref x1, .ref x2, .ref x3, .int zc, .ref mH, .int zy, .int za, .int zb, .int zs, .int zq, .int (-1), .int 0, .ref mY, .int zna, .ref mE, .int zma, .int zla, .ref mW, .int zka, .ref mO, .int zda, .ref y1, .ref y2, .ref y3, .ref y4, .ref mZ])), (mY, .inl (cI, 2600, .inl eYa)), (mB, .inl (cS, 131072, .inl eB)), (mL, .inl (cI, 512, .inl eL)), (mE, .inl (cI, 2600, .inl eEa)), (mW, .inl (cI, 300, .inl eWa)), (mO, .inl (cI, 300, .inl eOa)), (mS, .inl (cI, 21, .inl eS)), (mX, .inl (cI, 6300, .inl eX)), (m1, .inl (cI, 6, .inl e1)), (m2, .inl (cI, 6, .inl e2)), (mR, .inl (cI, 1548, .inl eRa)), (x1, .inl (cI, 300, .inl ec1)), (x2, .inl (cI, 300, .inl ec2)), (x3, .inl (cI, 300, .inl ec3))]) rfl
              clear hP hD hS hJ hPD9
              have hP := hPn
              have hD := hDn
              have hS := hSn
              clear hPn hDn hSn
              refine lv_istore_n (lv' := [(3, .int r_5), (2, .int my), (0, .ref oM), (1, .int n)]) hx hb dX12_rows_53 rfl hl (by decide) rfl (fun ls hl => ?_)
              refine lv_iconst (v := 0) hx hb dX12_rows_54 (by decide) ?_
              refine lv_istore (lv' := [(4, .int 0), (3, .int r_5), (2, .int my), (0, .ref oM), (1, .int n)]) hx hb dX12_rows_55 hl (by decide) rfl (fun ls hl => ?_)
              have LOOP_57 : ∀ (k_57 : Nat) (co : Int32) (znb : Int32) (zdb : Int32) (zmb : Int32) (zlb : Int32) (zkb : Int32) (zrb : Int32) (eYb : Nat → Int32) (eEb : Nat → Int32) (eWb : Nat → Int32) (eOb : Nat → Int32) (eRb : Nat → Int32) (H : Heap) (locs : List Loc) (ls : Array Slot), MSd (r_5.toInt - co.toInt : Int) k_57 → (0 ≤ co.toInt ∧ co.toInt ≤ r_5.toInt) → (0 ≤ znb.toInt ∧ znb.toInt ≤ 2600) → (0 ≤ zmb.toInt ∧ zmb.toInt ≤ 2600) → (0 ≤ zkb.toInt ∧ zkb.toInt ≤ 300) → (0 ≤ zrb.toInt ∧ zrb.toInt ≤ 258) → (rg 0 255 eYb) → (rg 0 65535 eEb) → (rg 0 65535 eWb) → (rg 0 65535 eOb) → ((my.toInt = 1 ∧ zrb.toInt ≤ co.toInt) ∨ (my.toInt = 2 ∧ zrb.toInt ≤ 6 + co.toInt) ∨ (my.toInt = 3 ∧ zrb.toInt ≤ 42 + co.toInt)) → (∀ R1 R2 R3 : Nat → Int32, rGE (UR e1 e2 eL eB) (tcR zc.toInt ec1 ec2 ec3) zh.toNatClampNeg (eS 0).toInt.toNat eX n.toInt R1 R2 R3 → RWT R1 R2 R3 eRb (roff zh.toNatClampNeg my.toNatClampNeg + co.toNatClampNeg) zrb.toInt) → va_P (dC, dI) vwCl [(oM, .inr (12, [.ref mT, .int zt, .ref mS, .ref mX, .int zp, .int zf, .ref mL, .ref mB, .ref mD, .ref m1, .ref m2, .int zh, .ref mR, .int zrb, .ref x1, .ref x2, .ref x3, .int zc, .ref mH, .int zy, .int za, .int zb, .int zs, .int zq, .int (-1), .int 0, .ref mY, .int znb, .ref mE, .int zmb, .int zlb, .ref mW, .int zkb, .ref mO, .int zdb, .ref y1, .ref y2, .ref y3, .ref y4, .ref mZ])), (mY, .inl (cI, 2600, .inl eYb)), (mB, .inl (cS, 131072, .inl eB)), (mL, .inl (cI, 512, .inl eL)), (mE, .inl (cI, 2600, .inl eEb)), (mW, .inl (cI, 300, .inl eWb)), (mO, .inl (cI, 300, .inl eOb)), (mS, .inl (cI, 21, .inl eS)), (mX, .inl (cI, 6300, .inl eX)), (m1, .inl (cI, 6, .inl e1)), (m2, .inl (cI, 6, .inl e2)), (mR, .inl (cI, 1548, .inl eRb)), (x1, .inl (cI, 300, .inl ec1)), (x2, .inl (cI, 300, .inl ec2)), (x3, .inl (cI, 300, .inl ec3))] H → va_D A [(oM, .inr (12, [.ref mT, .int zt, .ref mS, .ref mX, .int zp, .int zf, .ref mL, .ref mB, .ref mD, .ref m1, .ref m2, .int zh, .ref mR, .int zrb, .ref x1, .ref x2, .ref x3, .int zc, .ref mH, .int zy, .int za, .int zb, .int zs, .int zq, .int (-1), .int 0, .ref mY, .int znb, .ref mE, .int zmb, .int zlb, .ref mW, .int zkb, .ref mO, .int zdb, .ref y1, .ref y2, .ref y3, .ref y4, .ref mZ])), (mY, .inl (cI, 2600, .inl eYb)), (mB, .inl (cS, 131072, .inl eB)), (mL, .inl (cI, 512, .inl eL)), (mE, .inl (cI, 2600, .inl eEb)), (mW, .inl (cI, 300, .inl eWb)), (mO, .inl (cI, 300, .inl eOb)), (mS, .inl (cI, 21, .inl eS)), (mX, .inl (cI, 6300, .inl eX)), (m1, .inl (cI, 6, .inl e1)), (m2, .inl (cI, 6, .inl e2)), (mR, .inl (cI, 1548, .inl eRb)), (x1, .inl (cI, 300, .inl ec1)), (x2, .inl (cI, 300, .inl ec2)), (x3, .inl (cI, 300, .inl ec3))] → va_S A s.heap H locs → lv_has ls 7 [(4, .int co), (3, .int r_5), (2, .int my), (0, .ref oM), (1, .int n)] → W p l e (headSpec wsX12_rows ({ frames := 6, cells := 0, slots := 0, locals := 145 } : Room)).room s m ([.ref oM, .int n] : List Value).toArray below meth c H locs 0 0 (MQ below QQ ([.ref oM, .int n] : List Value).toArray s 0 0 A) (F0 m 57 ls []) := by
                clear hP hD hS hl
                try (clear g_zna g_zma g_zka g_zr hzs)
                intro k_57
                induction k_57 with
                | zero =>
                  intro co znb zdb zmb zlb zkb zrb eYb eEb eWb eOb eRb H locs ls hm_57 g_co g_znb g_zmb g_zkb g_zrb g_eYb g_eEb g_eWb g_eOb hco hmi hP hD hS hl
                  exact ms_0 hm_57
                | succ k_57 ih_57 =>
                  intro co znb zdb zmb zlb zkb zrb eYb eEb eWb eOb eRb H locs ls hm_57 g_co g_znb g_zmb g_zkb g_zrb g_eYb g_eEb g_eWb g_eOb hco hmi hP hD hS hl
                  refine lv_iload hx hb dX12_rows_57 (lv_at hl 0 rfl) ?_
                  refine lv_iload_n hx hb dX12_rows_59 rfl (lv_at hl 1 rfl) ?_
                  refine lv_icmp_ge (tgt := 202) hx hb dX12_rows_60 (by decide) (fun c_6 => ?_) (fun c_6 => ?_)
                  · have tc_6 : r_5.toInt ≤ co.toInt := v_le c_6
                    obtain ⟨x_7, ex_7⟩ : ∃ y : Int32, y = my + 1 := ⟨_, rfl⟩
                    have tx_7 : x_7.toInt = my.toInt + 1 := v_addR (l2 := 1) (h2 := 1) ex_7 g_my (by decide) (by decide) (by decide)
                    refine lv_iinc (v := x_7) (lv' := [(2, .int x_7), (4, .int co), (3, .int r_5), (0, .ref oM), (1, .int n)]) hx hb dX12_rows_202 hl (k := 2) rfl (by rw [ex_7]; rfl) (by decide) rfl (fun ls hl => ?_)
                    refine lv_goto (tgt := 29) hx hb dX12_rows_205 (by decide) ?_
                    exact ih_29 x_7 znb zdb zmb zlb zkb zrb eYb eEb eWb eOb eRb _ _ _ (ms_lt hm_29 (by show ((4 - x_7.toInt : Int)) < 4 - my.toInt; omega) (by show (0 : Int) < 4 - my.toInt; omega)) (by show 1 ≤ x_7.toInt ∧ x_7.toInt ≤ 4; omega) (g_znb) (g_zmb) (g_zkb) (g_zrb) (g_eYb) (g_eEb) (g_eWb) (g_eOb) (by show (x_7.toInt = 1 ∧ zrb.toInt = 0) ∨ (x_7.toInt = 2 ∧ zrb.toInt ≤ 6) ∨ (x_7.toInt = 3 ∧ zrb.toInt ≤ 42) ∨ (x_7.toInt = 4 ∧ zrb.toInt ≤ 258); omega) (by show x_7.toInt ≤ n.toInt + 1; omega) (fun R1 R2 R3 hR => RWT_e (hmi R1 R2 R3 hR) (by rw [ix_eq (x := x_7) (N := my.toNatClampNeg + 1) (by omega), hmy3]; have cco := v_clamp (x := co) (by omega); have hal9 := hf5_2; omega)) hP hD hS (lv_sub hl [0, 3, 4] rfl)
                  · have tc_6 : co.toInt < r_5.toInt := v_nle c_6
                    have cco := v_clamp (x := co) (by omega)
                    have hal9 := hf5_2
                    have h258 := off_258 (z := zh.toNatClampNeg) (k := my.toNatClampNeg) (by omega) (by omega) (by omega)
                    refine lv_aload_n hx hb dX12_rows_63 rfl (lv_at hl 3 rfl) ?_
                    refine lv_iload hx hb dX12_rows_64 (lv_at hl 0 rfl) ?_
                    refine lv_iload_n hx hb dX12_rows_66 rfl (lv_at hl 2 rfl) ?_
                    refine kV_i (rest := []) (q0 := 0) (ci := 12) hcf (f_X12_makes l dC dI cI cS H.size oM mT mS mX mL mB mD m1 m2 mR x1 x2 x3 mH mY mE mW mO y1 y2 y3 y4 mZ zt zp zf zh zrb zc zy za zb zs zq (-1) 0 znb zmb zlb zkb zdb eYb eB eL eEb eWb eOb eS eX e1 e2 co my (g_zt) (g_zp) (g_zf) (g_zh) (g_zrb) (g_zc) (g_zy) (g_za) (g_zb) (g_zs) (g_zq) (g_znb) (g_zmb) (g_zkb) (g_eYb) (g_eB) (g_eL) (g_eEb) (g_eWb) (g_eOb) (g_eS) (g_eX) (g_e1) (g_e2) (by omega) (by omega) (by omega) (hxl) (hlb) (hlz)) kc_X12_makes gX12_rows_X12_makes rfl rfl rfl ⟨Nat.le_of_ble_eq_true rfl, Nat.le_of_ble_eq_true rfl⟩ kX_t hK hP hD hS hA (posT mk_173 0) (posF mk_173 0) (kC_of mk_173 rfl rfl) (by decide +kernel) rfl rfl rfl hl rfl (Nat.le_of_ble_eq_true rfl) dX12_rows_67 ⟨Nat.le_of_ble_eq_true rfl, Nat.le_of_ble_eq_true rfl⟩ (fun r_8 H locs hB hJ hSn => ?_)
                    refine hB _ (fun zn_8 eY_8 zd_8 zm_8 zl_8 eE_8 zk_8 eW_8 eO_8 hPD9 hf8_0 hf8_1 hf8_2 hf8_3 hf8_4 hf8_5 hf8_6 hf8_7 hf8_8 => ?_)
                    clear hB
                    obtain ⟨hPn, hDn⟩ := kJi (m := mk_173) hJ rfl hPD9.1 hPD9.2 (wn := [(oM, .inr (12, [.ref mT, .int zt, .ref mS, .ref mX, .int zp, .int zf, .ref mL, .ref mB, .ref mD, .ref m1, .ref m2, .int zh, .ref mR, .int zrb, .ref x1, .ref x2, .ref x3, .int zc, .ref mH, .int zy, .int za, .int zb, .int zs, .int zq, .int (-1), .int 0, .ref mY, .int zn_8, .ref mE, .int zm_8, .int zl_8, .ref mW, .int zk_8, .ref mO, .int zd_8, .ref y1, .ref y2, .ref y3, .ref y4, .ref mZ])), (mY, .inl (cI, 2600, .inl eY_8)), (mB, .inl (cS, 131072, .inl eB)), (mL, .inl (cI, 512, .inl eL)), (mE, .inl (cI, 2600, .inl eE_8)), (mW, .inl (cI, 300, .inl eW_8)), (mO, .inl (cI, 300, .inl eO_8)), (mS, .inl (cI, 21, .inl eS)), (mX, .inl (cI, 6300, .inl eX)), (m1, .inl (cI, 6, .inl e1)), (m2, .inl (cI, 6, .inl e2)), (mR, .inl (cI, 1548, .inl eRb)), (x1, .inl (cI, 300, .inl ec1)), (x2, .inl (cI, 300, .inl ec2)), (x3, .inl (cI, 300, .inl ec3))]) rfl
                    clear hP hD hS hJ hPD9
                    have hP := hPn
                    have hD := hDn
                    have hS := hSn
                    clear hPn hDn hSn
                    refine lv_if_ne (tgt := 76) hx hb dX12_rows_70 (by decide) (fun c_9 => ?_) (fun c_9 => ?_)
                    · have tc_9 : ¬ r_8.toInt = 0 := v_ne c_9
                      refine lv_bipush (v := 6) hx hb dX12_rows_76 (by decide) ?_
                      refine lv_aload_n hx hb dX12_rows_78 rfl (lv_at hl 3 rfl) ?_
                      refine va_get (D := (dC, dI)) (ci := 12) (v := .int zrb) (C := RX12) (T := TX12) (N := 40) hx hb hts in_X12 hown hK hP 0 rfl rfl 13 (Nat.le_of_ble_eq_true rfl) (hts (.fieldLink RX12 180 "TextMenderModel" "rowMany" "I") (List.mem_of_getElem? (i := 3) rfl)) (fun _ h9 => h9) rfl dX12_rows_79 ?_
                      refine lv_imul hx hb dX12_rows_82 ?_
                      refine lv_topi (fun x_10 ex_10 => ?_)
                      have tx_10 : x_10.toInt = 6 * zrb.toInt := v_mul ex_10 (by show -2147483648 ≤ 6 * zrb.toInt; omega) (by show 6 * zrb.toInt < 2147483648; omega)
                      refine lv_istore (lv' := [(5, .int x_10), (4, .int co), (3, .int r_5), (2, .int my), (0, .ref oM), (1, .int n)]) hx hb dX12_rows_83 hl (by decide) rfl (fun ls hl => ?_)
                      refine lv_aload_n hx hb dX12_rows_85 rfl (lv_at hl 4 rfl) ?_
                      refine va_get (D := (dC, dI)) (ci := 12) (v := .ref mR) (C := RX12) (T := TX12) (N := 40) hx hb hts in_X12 hown hK hP 0 rfl rfl 12 (Nat.le_of_ble_eq_true rfl) (hts (.fieldLink RX12 36 "TextMenderModel" "rows" "[I") (List.mem_of_getElem? (i := 5) rfl)) (fun _ h9 => h9) rfl dX12_rows_86 ?_
                      refine lv_iload hx hb dX12_rows_89 (lv_at hl 0 rfl) ?_
                      refine lv_iload_n hx hb dX12_rows_91 rfl (lv_at hl 3 rfl) ?_
                      obtain ⟨f_11, ef_11⟩ : ∃ g : Nat → Int32, g = upd eRb (x_10 : Int32).toNatClampNeg my := ⟨_, rfl⟩
                      refine va_iast hx hb hK hP hD hS 11 0 rfl rfl (v_in (by omega)) dX12_rows_92 (kWf (g := f_11) (F := fun f_11 => [(oM, .inr (12, [.ref mT, .int zt, .ref mS, .ref mX, .int zp, .int zf, .ref mL, .ref mB, .ref mD, .ref m1, .ref m2, .int zh, .ref mR, .int zrb, .ref x1, .ref x2, .ref x3, .int zc, .ref mH, .int zy, .int za, .int zb, .int zs, .int zq, .int (-1), .int 0, .ref mY, .int zn_8, .ref mE, .int zm_8, .int zl_8, .ref mW, .int zk_8, .ref mO, .int zd_8, .ref y1, .ref y2, .ref y3, .ref y4, .ref mZ])), (mY, .inl (cI, 2600, .inl eY_8)), (mB, .inl (cS, 131072, .inl eB)), (mL, .inl (cI, 512, .inl eL)), (mE, .inl (cI, 2600, .inl eE_8)), (mW, .inl (cI, 300, .inl eW_8)), (mO, .inl (cI, 300, .inl eO_8)), (mS, .inl (cI, 21, .inl eS)), (mX, .inl (cI, 6300, .inl eX)), (m1, .inl (cI, 6, .inl e1)), (m2, .inl (cI, 6, .inl e2)), (mR, .inl (cI, 1548, .inl f_11)), (x1, .inl (cI, 300, .inl ec1)), (x2, .inl (cI, 300, .inl ec2)), (x3, .inl (cI, 300, .inl ec3))]) ef_11 rfl (fun H locs hPn hDn hSn => ?_))
                      clear hP hD hS
                      have hP := hPn
                      have hD := hDn
                      have hS := hSn
                      clear hPn hDn hSn
                      skip
                      refine lv_iconst (v := 0) hx hb dX12_rows_93 (by decide) ?_
                      refine lv_istore (lv' := [(6, .int 0), (5, .int x_10), (4, .int co), (3, .int r_5), (2, .int my), (0, .ref oM), (1, .int n)]) hx hb dX12_rows_94 hl (by decide) rfl (fun ls hl => ?_)
                      have LOOP_96 : ∀ (k_96 : Nat) (k : Int32) (eRc : Nat → Int32) (H : Heap) (locs : List Loc) (ls : Array Slot), MSd (3 - k.toInt : Int) k_96 → (0 ≤ k.toInt ∧ k.toInt ≤ 3) → (CPR zh.toNatClampNeg my.toNatClampNeg co.toNatClampNeg zrb.toInt k.toInt f_11 eRc) → va_P (dC, dI) vwCl [(oM, .inr (12, [.ref mT, .int zt, .ref mS, .ref mX, .int zp, .int zf, .ref mL, .ref mB, .ref mD, .ref m1, .ref m2, .int zh, .ref mR, .int zrb, .ref x1, .ref x2, .ref x3, .int zc, .ref mH, .int zy, .int za, .int zb, .int zs, .int zq, .int (-1), .int 0, .ref mY, .int zn_8, .ref mE, .int zm_8, .int zl_8, .ref mW, .int zk_8, .ref mO, .int zd_8, .ref y1, .ref y2, .ref y3, .ref y4, .ref mZ])), (mY, .inl (cI, 2600, .inl eY_8)), (mB, .inl (cS, 131072, .inl eB)), (mL, .inl (cI, 512, .inl eL)), (mE, .inl (cI, 2600, .inl eE_8)), (mW, .inl (cI, 300, .inl eW_8)), (mO, .inl (cI, 300, .inl eO_8)), (mS, .inl (cI, 21, .inl eS)), (mX, .inl (cI, 6300, .inl eX)), (m1, .inl (cI, 6, .inl e1)), (m2, .inl (cI, 6, .inl e2)), (mR, .inl (cI, 1548, .inl eRc)), (x1, .inl (cI, 300, .inl ec1)), (x2, .inl (cI, 300, .inl ec2)), (x3, .inl (cI, 300, .inl ec3))] H → va_D A [(oM, .inr (12, [.ref mT, .int zt, .ref mS, .ref mX, .int zp, .int zf, .ref mL, .ref mB, .ref mD, .ref m1, .ref m2, .int zh, .ref mR, .int zrb, .ref x1, .ref x2, .ref x3, .int zc, .ref mH, .int zy, .int za, .int zb, .int zs, .int zq, .int (-1), .int 0, .ref mY, .int zn_8, .ref mE, .int zm_8, .int zl_8, .ref mW, .int zk_8, .ref mO, .int zd_8, .ref y1, .ref y2, .ref y3, .ref y4, .ref mZ])), (mY, .inl (cI, 2600, .inl eY_8)), (mB, .inl (cS, 131072, .inl eB)), (mL, .inl (cI, 512, .inl eL)), (mE, .inl (cI, 2600, .inl eE_8)), (mW, .inl (cI, 300, .inl eW_8)), (mO, .inl (cI, 300, .inl eO_8)), (mS, .inl (cI, 21, .inl eS)), (mX, .inl (cI, 6300, .inl eX)), (m1, .inl (cI, 6, .inl e1)), (m2, .inl (cI, 6, .inl e2)), (mR, .inl (cI, 1548, .inl eRc)), (x1, .inl (cI, 300, .inl ec1)), (x2, .inl (cI, 300, .inl ec2)), (x3, .inl (cI, 300, .inl ec3))] → va_S A s.heap H locs → lv_has ls 7 [(6, .int k), (5, .int x_10), (4, .int co), (3, .int r_5), (2, .int my), (0, .ref oM), (1, .int n)] → W p l e (headSpec wsX12_rows ({ frames := 6, cells := 0, slots := 0, locals := 145 } : Room)).room s m ([.ref oM, .int n] : List Value).toArray below meth c H locs 0 0 (MQ below QQ ([.ref oM, .int n] : List Value).toArray s 0 0 A) (F0 m 96 ls []) := by
                        clear hP hD hS hl
                        try (clear g_znb g_zmb g_zkb g_zna g_zma g_zka g_zr hzs)
                        intro k_96
                        induction k_96 with
                        | zero =>
                          intro k eRc H locs ls hm_96 g_k hcr hP hD hS hl
                          exact ms_0 hm_96
                        | succ k_96 ih_96 =>
                          intro k eRc H locs ls hm_96 g_k hcr hP hD hS hl
                          refine lv_iload hx hb dX12_rows_96 (lv_at hl 0 rfl) ?_
                          refine lv_iconst (v := 3) hx hb dX12_rows_98 (by decide) ?_
                          refine lv_icmp_ge (tgt := 151) hx hb dX12_rows_99 (by decide) (fun c_12 => ?_) (fun c_12 => ?_)
                          · have tc_12 : 3 ≤ k.toInt := v_le c_12
                            refine lv_aload_n hx hb dX12_rows_151 rfl (lv_at hl 5 rfl) ?_
                            refine va_get (D := (dC, dI)) (ci := 12) (v := .ref mR) (C := RX12) (T := TX12) (N := 40) hx hb hts in_X12 hown hK hP 0 rfl rfl 12 (Nat.le_of_ble_eq_true rfl) (hts (.fieldLink RX12 36 "TextMenderModel" "rows" "[I") (List.mem_of_getElem? (i := 5) rfl)) (fun _ h9 => h9) rfl dX12_rows_152 ?_
                            refine lv_iload hx hb dX12_rows_155 (lv_at hl 1 rfl) ?_
                            refine lv_iconst (v := 4) hx hb dX12_rows_157 (by decide) ?_
                            refine lv_iadd hx hb dX12_rows_158 ?_
                            refine lv_topi (fun x_13 ex_13 => ?_)
                            have tx_13 : x_13.toInt = x_10.toInt + 4 := v_add ex_13 (by show -2147483648 ≤ x_10.toInt + 4; omega) (by show x_10.toInt + 4 < 2147483648; omega)
                            refine lv_aload_n hx hb dX12_rows_159 rfl (lv_at hl 5 rfl) ?_
                            refine lv_aload_n hx hb dX12_rows_160 rfl (lv_at hl 5 rfl) ?_
                            refine va_get (D := (dC, dI)) (ci := 12) (v := .ref mW) (C := RX12) (T := TX12) (N := 40) hx hb hts in_X12 hown hK hP 0 rfl rfl 31 (Nat.le_of_ble_eq_true rfl) (hts (.fieldLink RX12 64 "TextMenderModel" "work" "[I") (List.mem_of_getElem? (i := 6) rfl)) (fun _ h9 => h9) rfl dX12_rows_161 ?_
                            refine lv_iconst (v := 0) hx hb dX12_rows_164 (by decide) ?_
                            refine lv_aload_n hx hb dX12_rows_165 rfl (lv_at hl 5 rfl) ?_
                            refine va_get (D := (dC, dI)) (ci := 12) (v := .int zk_8) (C := RX12) (T := TX12) (N := 40) hx hb hts in_X12 hown hK hP 0 rfl rfl 32 (Nat.le_of_ble_eq_true rfl) (hts (.fieldLink RX12 135 "TextMenderModel" "workMany" "I") (List.mem_of_getElem? (i := 7) rfl)) (fun _ h9 => h9) rfl dX12_rows_166 ?_
                            refine kV_i (rest := [.int x_13, .ref mR]) (q0 := 0) (ci := 12) hcf (f_X12_costOf_ l dC dI cI cS H.size oM mW mT mS mX mL mB mD m1 m2 mR x1 x2 x3 mH mY mE mW mO y1 y2 y3 y4 mZ 300 zt zp zf zh zrb zc zy za zb zs zq (-1) 0 zn_8 zm_8 zl_8 zk_8 zd_8 ec1 ec2 ec3 eW_8 0 zk_8 (g_zt) (g_zp) (g_zf) (g_zh) (g_zrb) (g_zc) (g_zy) (g_za) (g_zb) (g_zs) (g_zq) (hf8_0) (hf8_2) (hf8_4) (by decide) (hf8_4) (by omega) (by omega) (hV) (prg_of hf8_5)) kc_X12_costOf_ gX12_rows_X12_costOf_ rfl rfl rfl ⟨Nat.le_of_ble_eq_true rfl, Nat.le_of_ble_eq_true rfl⟩ kX_t hK hP hD hS hA ([0, 2, 3, 4, 1].filterMap (fun j => (posT mk_174 0)[j]?)) (posF mk_174 0) (kCp (ws := [(oM, .inr (12, [.ref mT, .int zt, .ref mS, .ref mX, .int zp, .int zf, .ref mL, .ref mB, .ref mD, .ref m1, .ref m2, .int zh, .ref mR, .int zrb, .ref x1, .ref x2, .ref x3, .int zc, .ref mH, .int zy, .int za, .int zb, .int zs, .int zq, .int (-1), .int 0, .ref mY, .int zn_8, .ref mE, .int zm_8, .int zl_8, .ref mW, .int zk_8, .ref mO, .int zd_8, .ref y1, .ref y2, .ref y3, .ref y4, .ref mZ])), (mW, .inl (cI, 300, .inl eW_8)), (x1, .inl (cI, 300, .inl ec1)), (x2, .inl (cI, 300, .inl ec2)), (x3, .inl (cI, 300, .inl ec3))]) (kC_of mk_174 rfl rfl) rfl) (by decide +kernel) rfl rfl rfl hl rfl (Nat.le_of_ble_eq_true rfl) dX12_rows_169 ⟨Nat.le_of_ble_eq_true rfl, Nat.le_of_ble_eq_true rfl⟩ (fun r_14 H locs hB hJ hSn => ?_)
                            refine hB _ (fun hPD9 hf14_0 hf14_1 => ?_)
                            clear hB
                            obtain ⟨hPn, hDn⟩ := kJm (m := mk_174) hJ rfl hPD9.1 hPD9.2 [0, 4, 1, 2, 3] (by decide +kernel) (ws := [(oM, .inr (12, [.ref mT, .int zt, .ref mS, .ref mX, .int zp, .int zf, .ref mL, .ref mB, .ref mD, .ref m1, .ref m2, .int zh, .ref mR, .int zrb, .ref x1, .ref x2, .ref x3, .int zc, .ref mH, .int zy, .int za, .int zb, .int zs, .int zq, .int (-1), .int 0, .ref mY, .int zn_8, .ref mE, .int zm_8, .int zl_8, .ref mW, .int zk_8, .ref mO, .int zd_8, .ref y1, .ref y2, .ref y3, .ref y4, .ref mZ])), (mW, .inl (cI, 300, .inl eW_8)), (x1, .inl (cI, 300, .inl ec1)), (x2, .inl (cI, 300, .inl ec2)), (x3, .inl (cI, 300, .inl ec3))]) rfl (wn := [(oM, .inr (12, [.ref mT, .int zt, .ref mS, .ref mX, .int zp, .int zf, .ref mL, .ref mB, .ref mD, .ref m1, .ref m2, .int zh, .ref mR, .int zrb, .ref x1, .ref x2, .ref x3, .int zc, .ref mH, .int zy, .int za, .int zb, .int zs, .int zq, .int (-1), .int 0, .ref mY, .int zn_8, .ref mE, .int zm_8, .int zl_8, .ref mW, .int zk_8, .ref mO, .int zd_8, .ref y1, .ref y2, .ref y3, .ref y4, .ref mZ])), (mY, .inl (cI, 2600, .inl eY_8)), (mB, .inl (cS, 131072, .inl eB)), (mL, .inl (cI, 512, .inl eL)), (mE, .inl (cI, 2600, .inl eE_8)), (mW, .inl (cI, 300, .inl eW_8)), (mO, .inl (cI, 300, .inl eO_8)), (mS, .inl (cI, 21, .inl eS)), (mX, .inl (cI, 6300, .inl eX)), (m1, .inl (cI, 6, .inl e1)), (m2, .inl (cI, 6, .inl e2)), (mR, .inl (cI, 1548, .inl eRc)), (x1, .inl (cI, 300, .inl ec1)), (x2, .inl (cI, 300, .inl ec2)), (x3, .inl (cI, 300, .inl ec3))]) rfl
                            clear hP hD hS hJ hPD9
                            have hP := hPn
                            have hD := hDn
                            have hS := hSn
                            clear hPn hDn hSn
                            obtain ⟨f_15, ef_15⟩ : ∃ g : Nat → Int32, g = upd eRc (x_13 : Int32).toNatClampNeg r_14 := ⟨_, rfl⟩
                            refine va_iast hx hb hK hP hD hS 11 0 rfl rfl (v_in (by omega)) dX12_rows_172 (kWf (g := f_15) (F := fun f_15 => [(oM, .inr (12, [.ref mT, .int zt, .ref mS, .ref mX, .int zp, .int zf, .ref mL, .ref mB, .ref mD, .ref m1, .ref m2, .int zh, .ref mR, .int zrb, .ref x1, .ref x2, .ref x3, .int zc, .ref mH, .int zy, .int za, .int zb, .int zs, .int zq, .int (-1), .int 0, .ref mY, .int zn_8, .ref mE, .int zm_8, .int zl_8, .ref mW, .int zk_8, .ref mO, .int zd_8, .ref y1, .ref y2, .ref y3, .ref y4, .ref mZ])), (mY, .inl (cI, 2600, .inl eY_8)), (mB, .inl (cS, 131072, .inl eB)), (mL, .inl (cI, 512, .inl eL)), (mE, .inl (cI, 2600, .inl eE_8)), (mW, .inl (cI, 300, .inl eW_8)), (mO, .inl (cI, 300, .inl eO_8)), (mS, .inl (cI, 21, .inl eS)), (mX, .inl (cI, 6300, .inl eX)), (m1, .inl (cI, 6, .inl e1)), (m2, .inl (cI, 6, .inl e2)), (mR, .inl (cI, 1548, .inl f_15)), (x1, .inl (cI, 300, .inl ec1)), (x2, .inl (cI, 300, .inl ec2)), (x3, .inl (cI, 300, .inl ec3))]) ef_15 rfl (fun H locs hPn hDn hSn => ?_))
                            clear hP hD hS
                            have hP := hPn
                            have hD := hDn
                            have hS := hSn
                            clear hPn hDn hSn
                            refine lv_aload_n hx hb dX12_rows_173 rfl (lv_at hl 5 rfl) ?_
                            refine va_get (D := (dC, dI)) (ci := 12) (v := .ref mR) (C := RX12) (T := TX12) (N := 40) hx hb hts in_X12 hown hK hP 0 rfl rfl 12 (Nat.le_of_ble_eq_true rfl) (hts (.fieldLink RX12 36 "TextMenderModel" "rows" "[I") (List.mem_of_getElem? (i := 5) rfl)) (fun _ h9 => h9) rfl dX12_rows_174 ?_
                            refine lv_iload hx hb dX12_rows_177 (lv_at hl 1 rfl) ?_
                            refine lv_iconst (v := 5) hx hb dX12_rows_179 (by decide) ?_
                            refine lv_iadd hx hb dX12_rows_180 ?_
                            refine lv_topi (fun x_16 ex_16 => ?_)
                            have tx_16 : x_16.toInt = x_10.toInt + 5 := v_add ex_16 (by show -2147483648 ≤ x_10.toInt + 5; omega) (by show x_10.toInt + 5 < 2147483648; omega)
                            refine lv_aload_n hx hb dX12_rows_181 rfl (lv_at hl 5 rfl) ?_
                            refine va_get (D := (dC, dI)) (ci := 12) (v := .int zk_8) (C := RX12) (T := TX12) (N := 40) hx hb hts in_X12 hown hK hP 0 rfl rfl 32 (Nat.le_of_ble_eq_true rfl) (hts (.fieldLink RX12 135 "TextMenderModel" "workMany" "I") (List.mem_of_getElem? (i := 7) rfl)) (fun _ h9 => h9) rfl dX12_rows_182 ?_
                            obtain ⟨f_17, ef_17⟩ : ∃ g : Nat → Int32, g = upd f_15 (x_16 : Int32).toNatClampNeg zk_8 := ⟨_, rfl⟩
                            refine va_iast hx hb hK hP hD hS 11 0 rfl rfl (v_in (by omega)) dX12_rows_185 (kWf (g := f_17) (F := fun f_17 => [(oM, .inr (12, [.ref mT, .int zt, .ref mS, .ref mX, .int zp, .int zf, .ref mL, .ref mB, .ref mD, .ref m1, .ref m2, .int zh, .ref mR, .int zrb, .ref x1, .ref x2, .ref x3, .int zc, .ref mH, .int zy, .int za, .int zb, .int zs, .int zq, .int (-1), .int 0, .ref mY, .int zn_8, .ref mE, .int zm_8, .int zl_8, .ref mW, .int zk_8, .ref mO, .int zd_8, .ref y1, .ref y2, .ref y3, .ref y4, .ref mZ])), (mY, .inl (cI, 2600, .inl eY_8)), (mB, .inl (cS, 131072, .inl eB)), (mL, .inl (cI, 512, .inl eL)), (mE, .inl (cI, 2600, .inl eE_8)), (mW, .inl (cI, 300, .inl eW_8)), (mO, .inl (cI, 300, .inl eO_8)), (mS, .inl (cI, 21, .inl eS)), (mX, .inl (cI, 6300, .inl eX)), (m1, .inl (cI, 6, .inl e1)), (m2, .inl (cI, 6, .inl e2)), (mR, .inl (cI, 1548, .inl f_17)), (x1, .inl (cI, 300, .inl ec1)), (x2, .inl (cI, 300, .inl ec2)), (x3, .inl (cI, 300, .inl ec3))]) ef_17 rfl (fun H locs hPn hDn hSn => ?_))
                            clear hP hD hS
                            have hP := hPn
                            have hD := hDn
                            have hS := hSn
                            clear hPn hDn hSn
                            refine lv_aload_n hx hb dX12_rows_186 rfl (lv_at hl 5 rfl) ?_
                            refine lv_dup hx hb dX12_rows_187 rfl ?_
                            refine va_get (D := (dC, dI)) (ci := 12) (v := .int zrb) (C := RX12) (T := TX12) (N := 40) hx hb hts in_X12 hown hK hP 0 rfl rfl 13 (Nat.le_of_ble_eq_true rfl) (hts (.fieldLink RX12 180 "TextMenderModel" "rowMany" "I") (List.mem_of_getElem? (i := 3) rfl)) (fun _ h9 => h9) rfl dX12_rows_188 ?_
                            refine lv_iconst (v := 1) hx hb dX12_rows_191 (by decide) ?_
                            refine lv_iadd hx hb dX12_rows_192 ?_
                            refine lv_topi (fun x_18 ex_18 => ?_)
                            have tx_18 : x_18.toInt = zrb.toInt + 1 := v_addR (l2 := 1) (h2 := 1) ex_18 g_zrb (by decide) (by decide) (by decide)
                            refine va_put (D := (dC, dI)) (ci := 12) (v := .int x_18) (ty := .int) (C := RX12) (T := TX12) (N := 40) hx hb hts in_X12 tyX12 tyX12_ok nmX12 hown hK hP hD hS 0 rfl rfl 13 (Nat.le_of_ble_eq_true rfl) (hts (.fieldLink RX12 180 "TextMenderModel" "rowMany" "I") (List.mem_of_getElem? (i := 3) rfl)) (fun _ h9 => h9) rfl (tyX12_ok 13 (Nat.le_of_ble_eq_true rfl)) rfl rfl (Nat.le_of_ble_eq_true rfl) dX12_rows_193 (kW (wn := [(oM, .inr (12, [.ref mT, .int zt, .ref mS, .ref mX, .int zp, .int zf, .ref mL, .ref mB, .ref mD, .ref m1, .ref m2, .int zh, .ref mR, .int x_18, .ref x1, .ref x2, .ref x3, .int zc, .ref mH, .int zy, .int za, .int zb, .int zs, .int zq, .int (-1), .int 0, .ref mY, .int zn_8, .ref mE, .int zm_8, .int zl_8, .ref mW, .int zk_8, .ref mO, .int zd_8, .ref y1, .ref y2, .ref y3, .ref y4, .ref mZ])), (mY, .inl (cI, 2600, .inl eY_8)), (mB, .inl (cS, 131072, .inl eB)), (mL, .inl (cI, 512, .inl eL)), (mE, .inl (cI, 2600, .inl eE_8)), (mW, .inl (cI, 300, .inl eW_8)), (mO, .inl (cI, 300, .inl eO_8)), (mS, .inl (cI, 21, .inl eS)), (mX, .inl (cI, 6300, .inl eX)), (m1, .inl (cI, 6, .inl e1)), (m2, .inl (cI, 6, .inl e2)), (mR, .inl (cI, 1548, .inl f_17)), (x1, .inl (cI, 300, .inl ec1)), (x2, .inl (cI, 300, .inl ec2)), (x3, .inl (cI, 300, .inl ec3))]) rfl (fun H locs hPn hDn hSn => ?_))
                            clear hP hD hS
                            have hP := hPn
                            have hD := hDn
                            have hS := hSn
                            clear hPn hDn hSn
                            obtain ⟨x_19, ex_19⟩ : ∃ y : Int32, y = co + 1 := ⟨_, rfl⟩
                            have tx_19 : x_19.toInt = co.toInt + 1 := v_add ex_19 (by show -2147483648 ≤ co.toInt + 1; omega) (by show co.toInt + 1 < 2147483648; omega)
                            refine lv_iinc (v := x_19) (lv' := [(4, .int x_19), (6, .int k), (5, .int x_10), (3, .int r_5), (2, .int my), (0, .ref oM), (1, .int n)]) hx hb dX12_rows_196 hl (k := 2) rfl (by rw [ex_19]; rfl) (by decide) rfl (fun ls hl => ?_)
                            refine lv_goto (tgt := 57) hx hb dX12_rows_199 (by decide) ?_
                            exact ih_57 x_19 zn_8 zd_8 zm_8 zl_8 zk_8 x_18 eY_8 eE_8 eW_8 eO_8 f_17 _ _ _ (ms_lt hm_57 (by show ((r_5.toInt - x_19.toInt : Int)) < r_5.toInt - co.toInt; omega) (by show (0 : Int) < r_5.toInt - co.toInt; omega)) (by show 0 ≤ x_19.toInt ∧ x_19.toInt ≤ r_5.toInt; omega) (hf8_0) (hf8_2) (hf8_4) (by show 0 ≤ x_18.toInt ∧ x_18.toInt ≤ 258; omega) (hf8_1) (hf8_3) (hf8_5) (hf8_6) (by show (my.toInt = 1 ∧ x_18.toInt ≤ x_19.toInt) ∨ (my.toInt = 2 ∧ x_18.toInt ≤ 6 + x_19.toInt) ∨ (my.toInt = 3 ∧ x_18.toInt ≤ 42 + x_19.toInt); omega) (fun R1 R2 R3 hR => RWT_y hU hR rfl hs3 hx9 hf8_8 (by omega) (by omega) (by omega) (by omega) (by omega) (hmi R1 R2 R3 hR) rfl (by rw [ix_eq (x := x_19) (N := co.toNatClampNeg + 1) (by omega)]; omega) (by omega) (by omega) ef_11 (by omega) (by omega) hcr (by omega) ef_15 (by omega) hf14_1 ef_17 (by omega)) hP hD hS (lv_sub hl [0, 3, 4, 5, 6] rfl)
                          · have tc_12 : k.toInt < 3 := v_nle c_12
                            have ck9 := v_clamp (x := k) (by omega)
                            refine lv_aload_n hx hb dX12_rows_102 rfl (lv_at hl 5 rfl) ?_
                            refine va_get (D := (dC, dI)) (ci := 12) (v := .ref mR) (C := RX12) (T := TX12) (N := 40) hx hb hts in_X12 hown hK hP 0 rfl rfl 12 (Nat.le_of_ble_eq_true rfl) (hts (.fieldLink RX12 36 "TextMenderModel" "rows" "[I") (List.mem_of_getElem? (i := 5) rfl)) (fun _ h9 => h9) rfl dX12_rows_103 ?_
                            refine lv_iload hx hb dX12_rows_106 (lv_at hl 1 rfl) ?_
                            refine lv_iconst (v := 1) hx hb dX12_rows_108 (by decide) ?_
                            refine lv_iadd hx hb dX12_rows_109 ?_
                            refine lv_topi (fun x_20 ex_20 => ?_)
                            have tx_20 : x_20.toInt = x_10.toInt + 1 := v_add ex_20 (by show -2147483648 ≤ x_10.toInt + 1; omega) (by show x_10.toInt + 1 < 2147483648; omega)
                            refine lv_iload hx hb dX12_rows_110 (lv_at hl 0 rfl) ?_
                            refine lv_iadd hx hb dX12_rows_112 ?_
                            refine lv_topi (fun x_21 ex_21 => ?_)
                            have tx_21 : x_21.toInt = x_20.toInt + k.toInt := v_add ex_21 (by show -2147483648 ≤ x_20.toInt + k.toInt; omega) (by show x_20.toInt + k.toInt < 2147483648; omega)
                            refine lv_iload hx hb dX12_rows_113 (lv_at hl 0 rfl) ?_
                            refine lv_iload_n hx hb dX12_rows_115 rfl (lv_at hl 4 rfl) ?_
                            refine lv_icmp_ge (tgt := 143) hx hb dX12_rows_116 (by decide) (fun c_22 => ?_) (fun c_22 => ?_)
                            · have tc_22 : my.toInt ≤ k.toInt := v_le c_22
                              refine lv_iconst (v := (-1)) hx hb dX12_rows_143 (by decide) ?_
                              obtain ⟨f_23, ef_23⟩ : ∃ g : Nat → Int32, g = upd eRc (x_21 : Int32).toNatClampNeg (-1) := ⟨_, rfl⟩
                              refine va_iast hx hb hK hP hD hS 11 0 rfl rfl (v_in (by omega)) dX12_rows_144 (kWf (g := f_23) (F := fun f_23 => [(oM, .inr (12, [.ref mT, .int zt, .ref mS, .ref mX, .int zp, .int zf, .ref mL, .ref mB, .ref mD, .ref m1, .ref m2, .int zh, .ref mR, .int zrb, .ref x1, .ref x2, .ref x3, .int zc, .ref mH, .int zy, .int za, .int zb, .int zs, .int zq, .int (-1), .int 0, .ref mY, .int zn_8, .ref mE, .int zm_8, .int zl_8, .ref mW, .int zk_8, .ref mO, .int zd_8, .ref y1, .ref y2, .ref y3, .ref y4, .ref mZ])), (mY, .inl (cI, 2600, .inl eY_8)), (mB, .inl (cS, 131072, .inl eB)), (mL, .inl (cI, 512, .inl eL)), (mE, .inl (cI, 2600, .inl eE_8)), (mW, .inl (cI, 300, .inl eW_8)), (mO, .inl (cI, 300, .inl eO_8)), (mS, .inl (cI, 21, .inl eS)), (mX, .inl (cI, 6300, .inl eX)), (m1, .inl (cI, 6, .inl e1)), (m2, .inl (cI, 6, .inl e2)), (mR, .inl (cI, 1548, .inl f_23)), (x1, .inl (cI, 300, .inl ec1)), (x2, .inl (cI, 300, .inl ec2)), (x3, .inl (cI, 300, .inl ec3))]) ef_23 rfl (fun H locs hPn hDn hSn => ?_))
                              clear hP hD hS
                              have hP := hPn
                              have hD := hDn
                              have hS := hSn
                              clear hPn hDn hSn
                              obtain ⟨x_24, ex_24⟩ : ∃ y : Int32, y = k + 1 := ⟨_, rfl⟩
                              have tx_24 : x_24.toInt = k.toInt + 1 := v_addR (l2 := 1) (h2 := 1) ex_24 g_k (by decide) (by decide) (by decide)
                              refine lv_iinc (v := x_24) (lv' := [(6, .int x_24), (5, .int x_10), (4, .int co), (3, .int r_5), (2, .int my), (0, .ref oM), (1, .int n)]) hx hb dX12_rows_145 hl (k := 0) rfl (by rw [ex_24]; rfl) (by decide) rfl (fun ls hl => ?_)
                              refine lv_goto (tgt := 96) hx hb dX12_rows_148 (by decide) ?_
                              exact ih_96 x_24 f_23 _ _ _ (ms_lt hm_96 (by show ((3 - x_24.toInt : Int)) < 3 - k.toInt; omega) (by show (0 : Int) < 3 - k.toInt; omega)) (by show 0 ≤ x_24.toInt ∧ x_24.toInt ≤ 3; omega) (CPR_s hcr (by omega) (by omega) (by omega) (show (-1 : Int32).toInt = _ from (by rw [nm_out (by omega)]; rfl)) ef_23 (by omega)) hP hD hS (lv_sub hl [0, 1, 2, 3, 4, 5, 6] rfl)
                            · have tc_22 : k.toInt < my.toInt := v_nle c_22
                              refine lv_iload hx hb dX12_rows_119 (lv_at hl 2 rfl) ?_
                              refine lv_aload_n hx hb dX12_rows_121 rfl (lv_at hl 5 rfl) ?_
                              refine va_get (D := (dC, dI)) (ci := 12) (v := .int zh) (C := RX12) (T := TX12) (N := 40) hx hb hts in_X12 hown hK hP 0 rfl rfl 11 (Nat.le_of_ble_eq_true rfl) (hts (.fieldLink RX12 161 "TextMenderModel" "harms" "I") (List.mem_of_getElem? (i := 4) rfl)) (fun _ h9 => h9) rfl dX12_rows_122 ?_
                              refine lv_iload_n hx hb dX12_rows_125 rfl (lv_at hl 4 rfl) ?_
                              refine lv_iconst (v := 1) hx hb dX12_rows_126 (by decide) ?_
                              refine lv_isub hx hb dX12_rows_127 ?_
                              refine lv_topi (fun x_25 ex_25 => ?_)
                              have tx_25 : x_25.toInt = my.toInt - 1 := v_subR (l2 := 1) (h2 := 1) ex_25 g_my (by decide) (by decide) (by decide)
                              refine lv_iload hx hb dX12_rows_128 (lv_at hl 0 rfl) ?_
                              refine lv_isub hx hb dX12_rows_130 ?_
                              refine lv_topi (fun x_26 ex_26 => ?_)
                              have tx_26 : x_26.toInt = x_25.toInt - k.toInt := v_subR ex_26 (v_difR (l := 0) (h := 3) (l2 := 1) (h2 := 1) tx_25 g_my (by decide) (by decide) (by decide)) g_k (by decide) (by decide)
                              refine kS_i (rest := [.int co, .int x_21, .ref mR]) hcf (f_X12_power l dC dI cI cS H.size zh x_26 (by omega) (by omega)) kc_X12_power gX12_rows_X12_power rfl rfl ⟨Nat.le_of_ble_eq_true rfl, Nat.le_of_ble_eq_true rfl⟩ kX_t hK hP hD hS hA (posT mk_172 0) (posF mk_172 0) (kC_of mk_172 rfl rfl) (by decide +kernel) rfl hl rfl (Nat.le_of_ble_eq_true rfl) dX12_rows_131 ⟨Nat.le_of_ble_eq_true rfl, Nat.le_of_ble_eq_true rfl⟩ (fun r_27 H locs hB hJ hSn => ?_)
                              refine hB _ (fun hPD9 hf27_0 hf27_1 hf27_2 => ?_)
                              clear hB
                              obtain ⟨hPn, hDn⟩ := kJi (m := mk_172) hJ rfl hPD9.1 hPD9.2 (wn := [(oM, .inr (12, [.ref mT, .int zt, .ref mS, .ref mX, .int zp, .int zf, .ref mL, .ref mB, .ref mD, .ref m1, .ref m2, .int zh, .ref mR, .int zrb, .ref x1, .ref x2, .ref x3, .int zc, .ref mH, .int zy, .int za, .int zb, .int zs, .int zq, .int (-1), .int 0, .ref mY, .int zn_8, .ref mE, .int zm_8, .int zl_8, .ref mW, .int zk_8, .ref mO, .int zd_8, .ref y1, .ref y2, .ref y3, .ref y4, .ref mZ])), (mY, .inl (cI, 2600, .inl eY_8)), (mB, .inl (cS, 131072, .inl eB)), (mL, .inl (cI, 512, .inl eL)), (mE, .inl (cI, 2600, .inl eE_8)), (mW, .inl (cI, 300, .inl eW_8)), (mO, .inl (cI, 300, .inl eO_8)), (mS, .inl (cI, 21, .inl eS)), (mX, .inl (cI, 6300, .inl eX)), (m1, .inl (cI, 6, .inl e1)), (m2, .inl (cI, 6, .inl e2)), (mR, .inl (cI, 1548, .inl eRc)), (x1, .inl (cI, 300, .inl ec1)), (x2, .inl (cI, 300, .inl ec2)), (x3, .inl (cI, 300, .inl ec3))]) rfl
                              clear hP hD hS hJ hPD9
                              have hP := hPn
                              have hD := hDn
                              have hS := hSn
                              clear hPn hDn hSn
                              refine lv_idiv hx hb dX12_rows_134 (v_nz (by omega)) ?_
                              refine lv_topi (fun x_28 ex_28 => ?_)
                              have tx_28 : 0 ≤ x_28.toInt ∧ x_28.toInt ≤ co.toInt := v_divr ex_28 (by show 0 ≤ co.toInt; omega) (by show 1 ≤ r_27.toInt; omega)
                              refine lv_aload_n hx hb dX12_rows_135 rfl (lv_at hl 5 rfl) ?_
                              refine va_get (D := (dC, dI)) (ci := 12) (v := .int zh) (C := RX12) (T := TX12) (N := 40) hx hb hts in_X12 hown hK hP 0 rfl rfl 11 (Nat.le_of_ble_eq_true rfl) (hts (.fieldLink RX12 161 "TextMenderModel" "harms" "I") (List.mem_of_getElem? (i := 4) rfl)) (fun _ h9 => h9) rfl dX12_rows_136 ?_
                              refine lv_irem hx hb dX12_rows_139 (v_nz (by omega)) ?_
                              refine lv_topi (fun x_29 ex_29 => ?_)
                              have tx_29 : 0 ≤ x_29.toInt ∧ x_29.toInt < zh.toInt := v_remr ex_29 (by show 0 ≤ x_28.toInt; omega) (by show 1 ≤ zh.toInt; omega)
                              refine lv_goto (tgt := 144) hx hb dX12_rows_140 (by decide) ?_
                              obtain ⟨f_30, ef_30⟩ : ∃ g : Nat → Int32, g = upd eRc (x_21 : Int32).toNatClampNeg x_29 := ⟨_, rfl⟩
                              refine va_iast hx hb hK hP hD hS 11 0 rfl rfl (v_in (by omega)) dX12_rows_144 (kWf (g := f_30) (F := fun f_30 => [(oM, .inr (12, [.ref mT, .int zt, .ref mS, .ref mX, .int zp, .int zf, .ref mL, .ref mB, .ref mD, .ref m1, .ref m2, .int zh, .ref mR, .int zrb, .ref x1, .ref x2, .ref x3, .int zc, .ref mH, .int zy, .int za, .int zb, .int zs, .int zq, .int (-1), .int 0, .ref mY, .int zn_8, .ref mE, .int zm_8, .int zl_8, .ref mW, .int zk_8, .ref mO, .int zd_8, .ref y1, .ref y2, .ref y3, .ref y4, .ref mZ])), (mY, .inl (cI, 2600, .inl eY_8)), (mB, .inl (cS, 131072, .inl eB)), (mL, .inl (cI, 512, .inl eL)), (mE, .inl (cI, 2600, .inl eE_8)), (mW, .inl (cI, 300, .inl eW_8)), (mO, .inl (cI, 300, .inl eO_8)), (mS, .inl (cI, 21, .inl eS)), (mX, .inl (cI, 6300, .inl eX)), (m1, .inl (cI, 6, .inl e1)), (m2, .inl (cI, 6, .inl e2)), (mR, .inl (cI, 1548, .inl f_30)), (x1, .inl (cI, 300, .inl ec1)), (x2, .inl (cI, 300, .inl ec2)), (x3, .inl (cI, 300, .inl ec3))]) ef_30 rfl (fun H locs hPn hDn hSn => ?_))
                              clear hP hD hS
                              have hP := hPn
                              have hD := hDn
                              have hS := hSn
                              clear hPn hDn hSn
                              obtain ⟨x_31, ex_31⟩ : ∃ y : Int32, y = k + 1 := ⟨_, rfl⟩
                              have tx_31 : x_31.toInt = k.toInt + 1 := v_addR (l2 := 1) (h2 := 1) ex_31 g_k (by decide) (by decide) (by decide)
                              refine lv_iinc (v := x_31) (lv' := [(6, .int x_31), (5, .int x_10), (4, .int co), (3, .int r_5), (2, .int my), (0, .ref oM), (1, .int n)]) hx hb dX12_rows_145 hl (k := 0) rfl (by rw [ex_31]; rfl) (by decide) rfl (fun ls hl => ?_)
                              refine lv_goto (tgt := 96) hx hb dX12_rows_148 (by decide) ?_
                              exact ih_96 x_31 f_30 _ _ _ (ms_lt hm_96 (by show ((3 - x_31.toInt : Int)) < 3 - k.toInt; omega) (by show (0 : Int) < 3 - k.toInt; omega)) (by show 0 ≤ x_31.toInt ∧ x_31.toInt ≤ 3; omega) (CPR_s hcr (by omega) (by omega) (by omega) (nm_v rfl ex_28 ex_29 hf27_2 (by omega) (by omega) (by omega) (by omega) (by omega) (by omega)) ef_30 (by omega)) hP hD hS (lv_sub hl [0, 1, 2, 3, 4, 5, 6] rfl)
                      exact LOOP_96 _ 0 f_11 _ _ _ (ms_s _) (by decide) (CPR_0 rfl) hP hD hS (lv_sub hl [0, 1, 2, 3, 4, 5, 6] rfl)
                    · have tc_9 : r_8.toInt = 0 := v_eq c_9
                      refine lv_goto (tgt := 196) hx hb dX12_rows_73 (by decide) ?_
                      obtain ⟨x_32, ex_32⟩ : ∃ y : Int32, y = co + 1 := ⟨_, rfl⟩
                      have tx_32 : x_32.toInt = co.toInt + 1 := v_add ex_32 (by show -2147483648 ≤ co.toInt + 1; omega) (by show co.toInt + 1 < 2147483648; omega)
                      refine lv_iinc (v := x_32) (lv' := [(4, .int x_32), (3, .int r_5), (2, .int my), (0, .ref oM), (1, .int n)]) hx hb dX12_rows_196 hl (k := 0) rfl (by rw [ex_32]; rfl) (by decide) rfl (fun ls hl => ?_)
                      refine lv_goto (tgt := 57) hx hb dX12_rows_199 (by decide) ?_
                      exact ih_57 x_32 zn_8 zd_8 zm_8 zl_8 zk_8 zrb eY_8 eE_8 eW_8 eO_8 eRb _ _ _ (ms_lt hm_57 (by show ((r_5.toInt - x_32.toInt : Int)) < r_5.toInt - co.toInt; omega) (by show (0 : Int) < r_5.toInt - co.toInt; omega)) (by show 0 ≤ x_32.toInt ∧ x_32.toInt ≤ r_5.toInt; omega) (hf8_0) (hf8_2) (hf8_4) (g_zrb) (hf8_1) (hf8_3) (hf8_5) (hf8_6) (by show (my.toInt = 1 ∧ zrb.toInt ≤ x_32.toInt) ∨ (my.toInt = 2 ∧ zrb.toInt ≤ 6 + x_32.toInt) ∨ (my.toInt = 3 ∧ zrb.toInt ≤ 42 + x_32.toInt); omega) (fun R1 R2 R3 hR => RWT_n (hmi R1 R2 R3 hR) (bd_gn hR rfl hf8_8 (by omega) (by omega) (by omega) (by omega)) (by rw [ix_eq (x := x_32) (N := co.toNatClampNeg + 1) (by omega)]; omega)) hP hD hS (lv_sub hl [0, 1, 2, 3, 4] rfl)
              exact LOOP_57 _ 0 zna zda zma zla zka zra eYa eEa eWa eOa eRa _ _ _ (ms_s _) (by show 0 ≤ (0 : Int) ∧ (0 : Int) ≤ r_5.toInt; omega) (g_zna) (g_zma) (g_zka) (g_zra) (g_eYa) (g_eEa) (g_eWa) (g_eOa) (by show (my.toInt = 1 ∧ zra.toInt ≤ 0) ∨ (my.toInt = 2 ∧ zra.toInt ≤ 6 + 0) ∨ (my.toInt = 3 ∧ zra.toInt ≤ 42 + 0); omega) (fun R1 R2 R3 hR => RWT_e (hmo R1 R2 R3 hR) rfl) hP hD hS (lv_sub hl [0, 1, 2, 3, 4] rfl)
            · have tc_4 : zh.toInt = 0 := v_eq c_4
              refine lv_iconst (v := 0) hx hb dX12_rows_41 (by decide) ?_
              refine lv_goto (tgt := 53) hx hb dX12_rows_42 (by decide) ?_
              refine lv_istore_n (lv' := [(3, .int 0), (2, .int my), (0, .ref oM), (1, .int n)]) hx hb dX12_rows_53 rfl hl (by decide) rfl (fun ls hl => ?_)
              refine lv_iconst (v := 0) hx hb dX12_rows_54 (by decide) ?_
              refine lv_istore (lv' := [(4, .int 0), (3, .int 0), (2, .int my), (0, .ref oM), (1, .int n)]) hx hb dX12_rows_55 hl (by decide) rfl (fun ls hl => ?_)
              have LOOP_57 : ∀ (k_57 : Nat) (co : Int32) (znb : Int32) (zdb : Int32) (zmb : Int32) (zlb : Int32) (zkb : Int32) (zrb : Int32) (eYb : Nat → Int32) (eEb : Nat → Int32) (eWb : Nat → Int32) (eOb : Nat → Int32) (eRb : Nat → Int32) (H : Heap) (locs : List Loc) (ls : Array Slot), MSd (0 - co.toInt : Int) k_57 → (0 ≤ co.toInt ∧ co.toInt ≤ 0) → (0 ≤ znb.toInt ∧ znb.toInt ≤ 2600) → (0 ≤ zmb.toInt ∧ zmb.toInt ≤ 2600) → (0 ≤ zkb.toInt ∧ zkb.toInt ≤ 300) → (0 ≤ zrb.toInt ∧ zrb.toInt ≤ 258) → (rg 0 255 eYb) → (rg 0 65535 eEb) → (rg 0 65535 eWb) → (rg 0 65535 eOb) → ((my.toInt = 1 ∧ zrb.toInt ≤ co.toInt) ∨ (my.toInt = 2 ∧ zrb.toInt ≤ 6 + co.toInt) ∨ (my.toInt = 3 ∧ zrb.toInt ≤ 42 + co.toInt)) → (∀ R1 R2 R3 : Nat → Int32, rGE (UR e1 e2 eL eB) (tcR zc.toInt ec1 ec2 ec3) zh.toNatClampNeg (eS 0).toInt.toNat eX n.toInt R1 R2 R3 → RWT R1 R2 R3 eRb (roff zh.toNatClampNeg my.toNatClampNeg + co.toNatClampNeg) zrb.toInt) → va_P (dC, dI) vwCl [(oM, .inr (12, [.ref mT, .int zt, .ref mS, .ref mX, .int zp, .int zf, .ref mL, .ref mB, .ref mD, .ref m1, .ref m2, .int zh, .ref mR, .int zrb, .ref x1, .ref x2, .ref x3, .int zc, .ref mH, .int zy, .int za, .int zb, .int zs, .int zq, .int (-1), .int 0, .ref mY, .int znb, .ref mE, .int zmb, .int zlb, .ref mW, .int zkb, .ref mO, .int zdb, .ref y1, .ref y2, .ref y3, .ref y4, .ref mZ])), (mY, .inl (cI, 2600, .inl eYb)), (mB, .inl (cS, 131072, .inl eB)), (mL, .inl (cI, 512, .inl eL)), (mE, .inl (cI, 2600, .inl eEb)), (mW, .inl (cI, 300, .inl eWb)), (mO, .inl (cI, 300, .inl eOb)), (mS, .inl (cI, 21, .inl eS)), (mX, .inl (cI, 6300, .inl eX)), (m1, .inl (cI, 6, .inl e1)), (m2, .inl (cI, 6, .inl e2)), (mR, .inl (cI, 1548, .inl eRb)), (x1, .inl (cI, 300, .inl ec1)), (x2, .inl (cI, 300, .inl ec2)), (x3, .inl (cI, 300, .inl ec3))] H → va_D A [(oM, .inr (12, [.ref mT, .int zt, .ref mS, .ref mX, .int zp, .int zf, .ref mL, .ref mB, .ref mD, .ref m1, .ref m2, .int zh, .ref mR, .int zrb, .ref x1, .ref x2, .ref x3, .int zc, .ref mH, .int zy, .int za, .int zb, .int zs, .int zq, .int (-1), .int 0, .ref mY, .int znb, .ref mE, .int zmb, .int zlb, .ref mW, .int zkb, .ref mO, .int zdb, .ref y1, .ref y2, .ref y3, .ref y4, .ref mZ])), (mY, .inl (cI, 2600, .inl eYb)), (mB, .inl (cS, 131072, .inl eB)), (mL, .inl (cI, 512, .inl eL)), (mE, .inl (cI, 2600, .inl eEb)), (mW, .inl (cI, 300, .inl eWb)), (mO, .inl (cI, 300, .inl eOb)), (mS, .inl (cI, 21, .inl eS)), (mX, .inl (cI, 6300, .inl eX)), (m1, .inl (cI, 6, .inl e1)), (m2, .inl (cI, 6, .inl e2)), (mR, .inl (cI, 1548, .inl eRb)), (x1, .inl (cI, 300, .inl ec1)), (x2, .inl (cI, 300, .inl ec2)), (x3, .inl (cI, 300, .inl ec3))] → va_S A s.heap H locs → lv_has ls 7 [(4, .int co), (3, .int 0), (2, .int my), (0, .ref oM), (1, .int n)] → W p l e (headSpec wsX12_rows ({ frames := 6, cells := 0, slots := 0, locals := 145 } : Room)).room s m ([.ref oM, .int n] : List Value).toArray below meth c H locs 0 0 (MQ below QQ ([.ref oM, .int n] : List Value).toArray s 0 0 A) (F0 m 57 ls []) := by
                clear hP hD hS hl
                try (clear g_zna g_zma g_zka g_zr hzs)
                intro k_57
                induction k_57 with
                | zero =>
                  intro co znb zdb zmb zlb zkb zrb eYb eEb eWb eOb eRb H locs ls hm_57 g_co g_znb g_zmb g_zkb g_zrb g_eYb g_eEb g_eWb g_eOb hco hmi hP hD hS hl
                  exact ms_0 hm_57
                | succ k_57 ih_57 =>
                  intro co znb zdb zmb zlb zkb zrb eYb eEb eWb eOb eRb H locs ls hm_57 g_co g_znb g_zmb g_zkb g_zrb g_eYb g_eEb g_eWb g_eOb hco hmi hP hD hS hl
                  refine lv_iload hx hb dX12_rows_57 (lv_at hl 0 rfl) ?_
                  refine lv_iload_n hx hb dX12_rows_59 rfl (lv_at hl 1 rfl) ?_
                  refine lv_icmp_ge (tgt := 202) hx hb dX12_rows_60 (by decide) (fun c_33 => ?_) (fun c_33 => by exfalso; have tc_33 : co.toInt < 0 := v_nle c_33; omega)
                  have tc_33 : 0 ≤ co.toInt := v_le c_33
                  obtain ⟨x_34, ex_34⟩ : ∃ y : Int32, y = my + 1 := ⟨_, rfl⟩
                  have tx_34 : x_34.toInt = my.toInt + 1 := v_addR (l2 := 1) (h2 := 1) ex_34 g_my (by decide) (by decide) (by decide)
                  refine lv_iinc (v := x_34) (lv' := [(2, .int x_34), (4, .int co), (3, .int 0), (0, .ref oM), (1, .int n)]) hx hb dX12_rows_202 hl (k := 2) rfl (by rw [ex_34]; rfl) (by decide) rfl (fun ls hl => ?_)
                  refine lv_goto (tgt := 29) hx hb dX12_rows_205 (by decide) ?_
                  exact ih_29 x_34 znb zdb zmb zlb zkb zrb eYb eEb eWb eOb eRb _ _ _ (ms_lt hm_29 (by show ((4 - x_34.toInt : Int)) < 4 - my.toInt; omega) (by show (0 : Int) < 4 - my.toInt; omega)) (by show 1 ≤ x_34.toInt ∧ x_34.toInt ≤ 4; omega) (g_znb) (g_zmb) (g_zkb) (g_zrb) (g_eYb) (g_eEb) (g_eWb) (g_eOb) (by show (x_34.toInt = 1 ∧ zrb.toInt = 0) ∨ (x_34.toInt = 2 ∧ zrb.toInt ≤ 6) ∨ (x_34.toInt = 3 ∧ zrb.toInt ≤ 42) ∨ (x_34.toInt = 4 ∧ zrb.toInt ≤ 258); omega) (by show x_34.toInt ≤ n.toInt + 1; omega) (fun R1 R2 R3 hR => RWT_e (hmi R1 R2 R3 hR) (by rw [ix_eq (x := x_34) (N := my.toNatClampNeg + 1) (by omega), hmy3]; have cco := v_clamp (x := co) (by omega); have hal9 := (show ((0 : Int32).toInt) = (rpz zh.toNatClampNeg my.toNatClampNeg : Int) from (by rw [ix_eq (x := zh) (N := 0) (by omega), rpz_0 (by omega)]; rfl)); omega)) hP hD hS (lv_sub hl [0, 3, 4] rfl)
              exact LOOP_57 _ 0 zna zda zma zla zka zra eYa eEa eWa eOa eRa _ _ _ (ms_s _) (by show 0 ≤ (0 : Int) ∧ (0 : Int) ≤ 0; omega) (g_zna) (g_zma) (g_zka) (g_zra) (g_eYa) (g_eEa) (g_eWa) (g_eOa) (by show (my.toInt = 1 ∧ zra.toInt ≤ 0) ∨ (my.toInt = 2 ∧ zra.toInt ≤ 6 + 0) ∨ (my.toInt = 3 ∧ zra.toInt ≤ 42 + 0); omega) (fun R1 R2 R3 hR => RWT_e (hmo R1 R2 R3 hR) rfl) hP hD hS (lv_sub hl [0, 1, 2, 3, 4] rfl)
      exact LOOP_29 _ 1 zn zd zm zl zk 0 eY eE eW eO eR _ _ _ (ms_s _) (by decide) (g_zn) (g_zm) (g_zk) (by decide) (g_eY) (g_eE) (g_eW) (g_eO) (by show (1 = 1 ∧ 0 = 0) ∨ (1 = 2 ∧ 0 ≤ 6) ∨ (1 = 3 ∧ 0 ≤ 42) ∨ (1 = 4 ∧ 0 ≤ 258); omega) (by show 1 ≤ n.toInt + 1; omega) (fun R1 R2 R3 hR => RWT_0 rfl rfl) hP hD hS (lv_sub hl [0, 1, 2] rfl)
    · have tc_2 : 3 < n.toInt := v_nle c_2
      refine lv_iconst (v := (-1)) hx hb dX12_rows_20 (by decide) ?_
      exact kl_i (v := (-1)) hQQ hx hb hr hlocks hS dX12_rows_21 (fun PZ9 kZ9 => kZ9 0 (-1) zr eR zn eY zd zm zl eE zk eW eO (⟨hP, hD⟩) (g_zr) (g_zn) (g_eY) (g_zm) (g_eE) (g_zk) (g_eW) (g_eO) (fun R1 R2 R3 hR => Or.inr ⟨by omega, rfl, rfl, rfl⟩))

end

/-! 60.vx -/
section

/-! ===== BEGIN exceptions that leave a method, and their catching by the caller (launches without stack traces) ===== -/
section VXA
/-! The laws vx_back, vx_callV, vx_callS, vx_callSW, vx_throw0, vx_throwS follow proofs of the library, with one case more: JvmDerived/Free/Laws.lean (Back.of_free), Shelf42/LK1.lean (callV, callS), Shelf/KitTraced.lean (throwNew0V, throwNewS). -/
/-- where a method has thrown q: the class by its name, the cell, what was written, the world -/
def vx_T (XC : String → State → State → Prop) (st : State) (q : Addr) (t : State) (mc ms : Nat) (free : Addr → Prop) : Prop :=
  ∃ (E : String) (ce : Cell) (L : List Loc), XC E st t ∧ t.heap[q]? = some ce ∧ ce.vm = .none ∧ st.vm.findClass E = some ce.cls ∧ st.WarmedH t.vm ∧ st.sameButNew ({ t with vm := st.vm } : State) L mc ms ∧ ∀ z ∈ L, free z.base
def vx_Q (Qc : Array Value → State → Outcome → State → Prop) (XC : String → State → State → Prop) (mc ms : Nat) (free : Addr → Prop) : Array Value → State → Outcome → State → Prop := fun a st o t =>
  (Qc a st o t ∧ ∃ L, FrameEnd st o t L mc ms ∧ ∀ q ∈ L, free q.base) ∨ ∃ q, o = .threw q ∧ vx_T XC st q t mc ms free
/-- a callee that returns or throws -/
def vx_Met (l : Launch) (y : MethodName) (ws : List Cond) (rm : Room) (Pc : Array Value → State → Prop) (Qc : Array Value → State → Outcome → State → Prop) (XC : String → State → State → Prop) (mc ms : Nat) (free : Addr → Prop) : Prop :=
  MetFree l y (headSpec ws rm) Pc (fun _ _ _ _ _ => True) (vx_Q Qc XC mc ms free)
def vx_Post (XC : String → State → State → Prop) (mc ms : Nat) (free : Addr → Prop) : Pt → Array Value → Addr → Pt → Prop := fun A a q B =>
  ∃ (g : JFrame) (mk : MethodId) (t : State) (L : List Loc) (E : String) (ce : Cell), B.U.heap = t.heap ∧ B.U.vm = t.vm ∧ XC E (A.U.calling g mk a) t ∧ t.heap[q]? = some ce ∧ ce.vm = .none ∧ A.U.vm.findClass E = some ce.cls ∧ B.locs = A.locs ++ L ∧ (∀ z ∈ L, free z.base) ∧ B.cells = A.cells + mc ∧ B.slots = A.slots + ms
def vx_Back (l : Launch) (R : Room) (p : Program) (e : Env) (below : List Frame) (s : State) (sargs : Array Value) (y : MethodName) (len W9 : Nat)
    (Pre : Pt → Array Value → Prop) (Post : Pt → Array Value → Option Value → Pt → Prop) (PostX : Pt → Array Value → Addr → Pt → Prop) : Prop :=
  ∀ (m : MethodId) (meth : Method) (c : Code) (A : Pt) (g : JFrame) (ig : Instr) (mk : MethodId) (a : Array Value),
    Stand p l e R s m sargs below meth c A.U A.locs A.cells A.slots → g.method = m → g.locals.size = c.maxLocals → decode c.code g.pc = .ok (ig, len) →
    2 * g.monitorRoom + (g.stack.map fun v => v.category).sum ≤ W9 → A.U.methodNamed? y = some mk → Pre A a →
    (∃ (v : Option Value) (B : Pt), Stand p l e R s m sargs below meth c B.U B.locs B.cells B.slots ∧ Post A a v B ∧
      Steps p.tables e below (doInvoke e (A.U.setTop g) [] mk a).1 (B.U.setTop { g with pc := g.pc + len, stack := v.toList ++ g.stack })) ∨
    (∃ (q : Addr) (B : Pt), Stand p l e R s m sargs below meth c B.U B.locs B.cells B.slots ∧ PostX A a q B ∧
      Steps p.tables e below (doInvoke e (A.U.setTop g) [] mk a).1 ((B.U.setTop g).pushFrame (.throwing q)))
section Payer
variable {l : Launch} {R : Room} {p : Program} {e : Env} {below : List Frame} {s : State} {sargs : Array Value} {y : MethodName} {len W9 : Nat}
theorem vx_back {ws : List Cond} {rm : Room} {Pc : Array Value → State → Prop} {Qc : Array Value → State → Outcome → State → Prop} {XC : String → State → State → Prop} {mc ms : Nat} {free : Addr → Prop} {bytes : ByteArray} {maxL : Nat} {ret : Option FieldType}
    (hM : vx_Met l y ws rm Pc Qc XC mc ms free) (hblind : FrameBlind Pc) (hrc : rm.cells = mc) (hrs : rm.slots = ms)
    (hframes : rm.frames + 1 ≤ R.frames) (hlocals : W9 + (maxL + 11) + rm.locals ≤ R.locals)
    (hws : ∀ w ∈ ws, ∀ a' U, s.WarmedH U.vm → w.before a' U = true) (hcode : Cond.code y bytes maxL ret ∈ ws) (hinit : ∀ a' U, s.WarmedH U.vm → (Cond.initialized y.cls).before a' U = true) :
    vx_Back l R p e below s sargs y len W9 (PreOf R mc ms Pc) (PostOf Qc mc ms free) (vx_Post XC mc ms free) := by
  intro m meth c A g ig mk a X hg hsize hdg hW hn hp
  have h1 : (headSpec ws rm).pre.before a A.U = true := atoms_intro fun w hw => hws w hw _ _ X.warmed
  have h2 : (Cond.code y bytes maxL ret).before a A.U = true := hws _ hcode _ _ X.warmed
  have h3 : (Cond.initialized y.cls).before a A.U = true := hinit _ _ X.warmed
  have h4 : A.cells + (headSpec ws rm).room.cells ≤ R.cells := by rw [show (headSpec ws rm).room.cells = mc from hrc]; exact hp.1
  have h5 : A.slots + (headSpec ws rm).room.slots ≤ R.slots := by rw [show (headSpec ws rm).room.slots = ms from hrs]; exact hp.2.1
  have hPc : Pc a (A.U.calling g mk a) := hblind _ _ _ _ hp.2.2
  obtain ⟨U, Ls, c0, s0⟩ := A
  dsimp only [Pt.U, Pt.locs, Pt.cells, Pt.slots] at h1 h2 h3 h4 h5 X hn hPc ⊢
  obtain ⟨methY, cY, hmY, hcY, -, hlY, -, -, -, -⟩ := Cond.code_spec hn h2
  obtain ⟨kY, hkY, -⟩ := className_of_methodNamed hn
  have hinitY : kY.init = .initialized := Cond.initialized_spec (findClass_of_methodNamed hn) hkY h3
  have h : At U g.method c below := by rw [hg]; exact X.here
  have hlocals9 : W9 + (maxL + 11) + (headSpec ws rm).room.locals ≤ R.locals := hlocals
  have happ : (headSpec ws rm).appliesLoose y e.platform (U.calling g mk a) = true :=
    Spec.appliesLoose_calling (g := g) h hdg hn hkY hinitY
      (X.room_calling (g := g) (R' := (headSpec ws rm).room) hsize hmY hcY hframes (by rw [hlY]; omega) h4 h5) h1
  obtain ⟨mid, hmid⟩ := h.above
  have hfr : (U.setTop g).frames = (.java g :: mid) ++ below := by rw [State.frames_setTop' g h.top, hmid]; rfl
  obtain ⟨o, s₂, hsteps, -, hend, hq⟩ := Steps.callFree hM p X.admits X.cas X.clock (acts := []) hfr happ hPc trivial
  have hq' : vx_Q Qc XC mc ms free a (U.calling g mk a) o s₂ := hq
  rw [State.frames_setTop' g h.top] at hend
  obtain ⟨g₀, hg0⟩ := Option.isSome_iff_exists.mp h.top
  obtain ⟨r, hr⟩ := State.topJava?_eq_some.mp hg0
  have hr' : (({ U with heap := s₂.heap, slotsUsed := s₂.slotsUsed } : State).setVm s₂.vm).frames = .java g₀ :: r := hr
  rcases hq' with ⟨hqc, L, hfe, hL⟩ | ⟨q, rfl, E, ce, L, hx, hce, hcv, hcl, hW₂, hsm, hL⟩
  · obtain ⟨⟨v, rfl⟩, hW₂, e2, q2, q3, q4, q5, q6⟩ := id hfe
    have e3 : s₂ = ({ (U.calling g mk a).setFrames s₂.frames with heap := s₂.heap, slotsUsed := s₂.slotsUsed } : State).setVm s₂.vm := by
      have : s₂ = ({ s₂ with vm := (U.calling g mk a).vm } : State).setVm s₂.vm := rfl
      rw [e2] at this
      exact this
    obtain ⟨c₂, i₂, len₂, hc₂, hd₂, hf₂⟩ := hend
    have hW' : U.WarmedH s₂.vm := hW₂
    have hcc : c₂ = c := by
      have h1 : s₂.code? g.method = U.code? g.method := by
        rw [State.code?_eq, State.code?_eq, hW'.alike.method?]
      exact Option.some.inj (hc₂.symm.trans (h1.trans h.code))
    subst hcc
    have hlen : len₂ = len := by rw [hdg] at hd₂; cases hd₂; rfl
    subst hlen
    have hs₂ : s₂ = (({ U with heap := s₂.heap, slotsUsed := s₂.slotsUsed } : State).setVm s₂.vm).setTop { g with pc := g.pc + len₂, stack := v.toList ++ g.stack } := by
      refine e3.trans ?_
      rw [hf₂, State.calling_eq h.top, State.setFrames_setFrames, State.setTop_of_frames _ hr', hr]
      rfl
    have hsame : U.sameButNew ({ U with heap := s₂.heap, slotsUsed := s₂.slotsUsed } : State) L mc ms := by
      refine ⟨?_, q2, q3, q4, q5, q6⟩
      obtain ⟨t, ht, -⟩ := State.frames_cons hr
      show ({ U with heap := s₂.heap, slotsUsed := s₂.slotsUsed } : State) = { U.setFrames U.frames with heap := s₂.heap, slotsUsed := s₂.slotsUsed }
      rw [State.setFrames_self ht]
    subst hg
    refine Or.inl ⟨v, ⟨(({ U with heap := s₂.heap, slotsUsed := s₂.slotsUsed } : State).setVm s₂.vm), Ls ++ L, c0 + mc, s0 + ms⟩,
      ⟨X.admits, X.cas, X.clock, X.frames, X.room, X.hears, X.method, X.code, (X.here.setHeapUsed s₂.heap s₂.slotsUsed).setVm hW'.alike, X.tail, State.WarmedH.trans X.warmed hW', X.limits, X.bytes, X.same.trans (hsame.setVm s.vm)⟩,
      ⟨g, mk, s₂, L, rfl, rfl, hqc, rfl, hL, rfl, rfl⟩, ?_⟩
    show Steps p.tables e below _ ((({ U with heap := s₂.heap, slotsUsed := s₂.slotsUsed } : State).setVm s₂.vm).setTop { g with pc := g.pc + len₂, stack := v.toList ++ g.stack })
    rw [← hs₂]
    exact hsteps
  · obtain ⟨e2, q2, q3, q4, q5, q6⟩ := id hsm
    have e3 : s₂ = ({ (U.calling g mk a).setFrames s₂.frames with heap := s₂.heap, slotsUsed := s₂.slotsUsed } : State).setVm s₂.vm := by
      have : s₂ = ({ s₂ with vm := (U.calling g mk a).vm } : State).setVm s₂.vm := rfl
      rw [e2] at this
      exact this
    have hf₂ : s₂.frames = .throwing q :: .java g :: U.frames.tail := hend
    have hW' : U.WarmedH s₂.vm := hW₂
    have hs₂ : s₂ = ((({ U with heap := s₂.heap, slotsUsed := s₂.slotsUsed } : State).setVm s₂.vm).setTop g).pushFrame (.throwing q) := by
      refine e3.trans ?_
      rw [hf₂, State.calling_eq h.top, State.setFrames_setFrames, State.pushFrame, State.frames_setTop _ hr', State.setTop_of_frames _ hr', State.setFrames_setFrames, hr]
      rfl
    have hsame : U.sameButNew ({ U with heap := s₂.heap, slotsUsed := s₂.slotsUsed } : State) L mc ms := by
      refine ⟨?_, q2, q3, q4, q5, q6⟩
      obtain ⟨t, ht, -⟩ := State.frames_cons hr
      show ({ U with heap := s₂.heap, slotsUsed := s₂.slotsUsed } : State) = { U.setFrames U.frames with heap := s₂.heap, slotsUsed := s₂.slotsUsed }
      rw [State.setFrames_self ht]
    subst hg
    refine Or.inr ⟨q, ⟨(({ U with heap := s₂.heap, slotsUsed := s₂.slotsUsed } : State).setVm s₂.vm), Ls ++ L, c0 + mc, s0 + ms⟩,
      ⟨X.admits, X.cas, X.clock, X.frames, X.room, X.hears, X.method, X.code, (X.here.setHeapUsed s₂.heap s₂.slotsUsed).setVm hW'.alike, X.tail, State.WarmedH.trans X.warmed hW', X.limits, X.bytes, X.same.trans (hsame.setVm s.vm)⟩,
      ⟨g, mk, s₂, L, E, ce, rfl, rfl, hx, hce, hcv, hcl, rfl, hL, rfl, rfl⟩, ?_⟩
    show Steps p.tables e below _ (((({ U with heap := s₂.heap, slotsUsed := s₂.slotsUsed } : State).setVm s₂.vm).setTop g).pushFrame (.throwing q))
    rw [← hs₂]
    exact hsteps
end Payer
section Calls
variable {p : Program} {l : Launch} {e : Env} {R : Room} {s : State} {m : MethodId} {args : Array Value} {below : List Frame} {meth : Method} {c : Code} {T : State} {locs : List Loc} {cells slots : Nat}
theorem vx_callV (X : Stand p l e R s m args below meth c T locs cells slots) (hexec : p.tables.exec = Jvm.exec) {own C : String} {index : Nat} {y : MethodName} {bytes : ByteArray} {maxL : Nat} {ret : Option FieldType}
    (hown : s.vm.findClass own = some m.cls) (hlink : (Cond.methodLink own index y).before args s = true) (hinst : (Cond.instanceMethod y).before args s = true) (hsel : (Cond.selects C y y).before args s = true)
    (hcode : (Cond.code y bytes maxL ret).before args s = true) (hy : y.cls ≠ "java/lang/invoke/MethodHandle" ∧ y.cls ≠ "java/lang/invoke/VarHandle")
    {W9 : Nat} {Pre : Pt → Array Value → Prop} {Post : Pt → Array Value → Option Value → Pt → Prop} {PostX : Pt → Array Value → Addr → Pt → Prop} (hK : vx_Back l R p e below s args y 3 W9 Pre Post PostX)
    {b : Addr} {cellB : Cell} (hcell : T.heap[b]? = some cellB) (hobj : cellB.vm.isStatics = false) (hcls : s.vm.findClass C = some cellB.cls)
    {g : JFrame} (hg : g.method = m) (hsize : g.locals.size = c.maxLocals) {argsL rest : List Value} (hlen : ∀ sig, parseMethodDescriptor y.desc = some sig → argsL.length = sig.parameters.length)
    (hstack : g.stack = argsL.reverse ++ .ref b :: rest) (hW : 2 * g.monitorRoom + (rest.map fun v => v.category).sum ≤ W9) (hdg : decode c.code g.pc = .ok (.invokevirtual index, 3))
    (hpre : ∀ vm₁, s.WarmedH vm₁ → Pre ⟨T.setVm vm₁, locs, cells, slots⟩ (Value.ref b :: argsL).toArray) :
    (∃ (v : Option Value) (vm₁ : Vm) (B : Pt), s.WarmedH vm₁ ∧ Stand p l e R s m args below meth c B.U B.locs B.cells B.slots ∧ Post ⟨T.setVm vm₁, locs, cells, slots⟩ (Value.ref b :: argsL).toArray v B ∧
      ∀ target, Steps p.tables e below (B.U.setTop { g with pc := g.pc + 3, stack := v.toList ++ rest }) target → Steps p.tables e below (T.setTop g) target) ∨
    (∃ (q : Addr) (vm₁ : Vm) (B : Pt), s.WarmedH vm₁ ∧ Stand p l e R s m args below meth c B.U B.locs B.cells B.slots ∧ PostX ⟨T.setVm vm₁, locs, cells, slots⟩ (Value.ref b :: argsL).toArray q B ∧
      Steps p.tables e below (T.setTop g) ((B.U.setTop { g with stack := rest }).pushFrame (.throwing q))) := by
  obtain ⟨mk, methM, hnamed, hmethM, hstM, habM⟩ := Cond.instanceMethod_spec hinst
  obtain ⟨methM', cM, hmethM', -, -, -, -, -, -, hsigM⟩ := Cond.code_spec hnamed hcode
  cases hmethM.symm.trans hmethM'
  obtain ⟨c2, r2, m2, q1, q2, q3, q4, kP, hkP, hkPi⟩ := Cond.selects_spec hsel
  cases hcls.symm.trans q1
  cases (State.methodFound?_of_named hnamed hy).symm.trans q2
  cases hnamed.symm.trans q3
  have hselP : selectMethod e.platform s.vm cellB.cls mk = .method mk := by rw [Launch.admits_selectMethod X.admits]; exact q4
  obtain ⟨vm₁, X₁, hstep₁⟩ := X.invokevirtual hexec hown hlink hnamed hmethM hstM hkP hkPi hy (a := b) (cell := cellB) hcell
    (fun z h => by rw [h] at hobj; cases hobj) hselP hmethM habM hkP hkPi (g := g) hg (argsL := argsL) (rest := rest) (hlen _ hsigM) hstack hdg
  rcases hK m meth c ⟨T.setVm vm₁, locs, cells, slots⟩ { g with stack := rest } (.invokevirtual index) mk (Value.ref b :: argsL).toArray X₁ hg hsize hdg hW (X₁.named hnamed) (hpre vm₁ X₁.warmed) with ⟨v, B, X', hpost, hsteps⟩ | ⟨q, B, X', hpost, hsteps⟩
  · exact Or.inl ⟨v, vm₁, B, X₁.warmed, X', hpost, fun target h => hstep₁ _ fun acts => by rw [doInvoke_state]; exact hsteps.trans h⟩
  · exact Or.inr ⟨q, vm₁, B, X₁.warmed, X', hpost, hstep₁ _ fun acts => by rw [doInvoke_state]; exact hsteps⟩
theorem vx_callS (X : Stand p l e R s m args below meth c T locs cells slots) (hexec : p.tables.exec = Jvm.exec) {own : String} {index : Nat} {y : MethodName} {bytes : ByteArray} {maxL : Nat} {ret : Option FieldType}
    (hown : s.vm.findClass own = some m.cls) (hlink : (Cond.methodLink own index y).before args s = true) (hstat : (Cond.static y).before args s = true) (hinit : (Cond.initialized y.cls).before args s = true)
    (hcode : (Cond.code y bytes maxL ret).before args s = true) (hy : y.cls ≠ "java/lang/invoke/MethodHandle" ∧ y.cls ≠ "java/lang/invoke/VarHandle")
    {W9 : Nat} {Pre : Pt → Array Value → Prop} {Post : Pt → Array Value → Option Value → Pt → Prop} {PostX : Pt → Array Value → Addr → Pt → Prop} (hK : vx_Back l R p e below s args y 3 W9 Pre Post PostX)
    {g : JFrame} (hg : g.method = m) (hsize : g.locals.size = c.maxLocals) {argsL rest : List Value} (hlen : ∀ sig, parseMethodDescriptor y.desc = some sig → argsL.length = sig.parameters.length)
    (hstack : g.stack = argsL.reverse ++ rest) (hW : 2 * g.monitorRoom + (rest.map fun v => v.category).sum ≤ W9) (hdg : decode c.code g.pc = .ok (.invokestatic index, 3))
    (hpre : ∀ vm₁, s.WarmedH vm₁ → Pre ⟨T.setVm vm₁, locs, cells, slots⟩ argsL.toArray) :
    (∃ (v : Option Value) (vm₁ : Vm) (B : Pt), s.WarmedH vm₁ ∧ Stand p l e R s m args below meth c B.U B.locs B.cells B.slots ∧ Post ⟨T.setVm vm₁, locs, cells, slots⟩ argsL.toArray v B ∧
      ∀ target, Steps p.tables e below (B.U.setTop { g with pc := g.pc + 3, stack := v.toList ++ rest }) target → Steps p.tables e below (T.setTop g) target) ∨
    (∃ (q : Addr) (vm₁ : Vm) (B : Pt), s.WarmedH vm₁ ∧ Stand p l e R s m args below meth c B.U B.locs B.cells B.slots ∧ PostX ⟨T.setVm vm₁, locs, cells, slots⟩ argsL.toArray q B ∧
      Steps p.tables e below (T.setTop g) ((B.U.setTop { g with stack := rest }).pushFrame (.throwing q))) := by
  obtain ⟨mk, hnamed⟩ := Cond.code_named hcode
  obtain ⟨methM, cM, hmethM, -, -, -, -, -, -, hsigM⟩ := Cond.code_spec hnamed hcode
  have hstatic : methM.isStatic = true := Cond.static_spec hnamed hmethM hstat
  obtain ⟨kP, hkP, -⟩ := className_of_methodNamed hnamed
  have hinitP : kP.init = .initialized := Cond.initialized_spec (findClass_of_methodNamed hnamed) hkP hinit
  obtain ⟨vm₁, X₁, hstep₁⟩ := X.invokestatic hexec hown hlink hnamed hmethM hstatic hkP hinitP hy (g := g) hg (argsL := argsL) (rest := rest) (hlen _ hsigM) hstack hdg
  rcases hK m meth c ⟨T.setVm vm₁, locs, cells, slots⟩ { g with stack := rest } (.invokestatic index) mk argsL.toArray X₁ hg hsize hdg hW (X₁.named hnamed) (hpre vm₁ X₁.warmed) with ⟨v, B, X', hpost, hsteps⟩ | ⟨q, B, X', hpost, hsteps⟩
  · exact Or.inl ⟨v, vm₁, B, X₁.warmed, X', hpost, fun target h => hstep₁ _ fun acts => by rw [doInvoke_state]; exact hsteps.trans h⟩
  · exact Or.inr ⟨q, vm₁, B, X₁.warmed, X', hpost, hstep₁ _ fun acts => by rw [doInvoke_state]; exact hsteps⟩
end Calls
theorem vx_cls {s : State} {T : State} {vm₁ : Vm} {E : String} {k : ClassId} (hW : s.WarmedH vm₁) (h : (T.setVm vm₁).vm.findClass E = some k) : s.vm.findClass E = some k := by
  have h1 : vm₁.findClass E = some k := h
  rw [hW.alike.findClass] at h1
  exact h1
/-- the method's frame g, with q thrown over it -/
def vx_W (p : Program) (l : Launch) (e : Env) (R : Room) (s : State) (m : MethodId) (args : Array Value) (below : List Frame) (meth : Method) (c : Code) (H : Heap) (locs : List Loc) (cells slots : Nat) (Q : State → Prop) (g : JFrame) (q : Addr) : Prop :=
  ∀ T : State, T.heap = H → Stand p l e R s m args below meth c T locs cells slots → ∃ t, Steps p.tables e below ((T.setTop g).pushFrame (.throwing q)) t ∧ Q t
def vx_Run (p : Program) (l : Launch) (e : Env) (R : Room) (s : State) (m : MethodId) (args : Array Value) (below : List Frame) (meth : Method) (c : Code) (H : Heap) (locs : List Loc) (cells slots mc ms : Nat) (g : JFrame) (rest : List Value) (Qa : State → Outcome → State → Prop) (XC : String → State → State → Prop) (free : Addr → Prop) : Prop :=
  ∀ T : State, T.heap = H → Stand p l e R s m args below meth c T locs cells slots →
    (∃ (v : Option Value) (st₀ t T' : State) (L : List Loc), st₀.heap = H ∧ Stand p l e R s m args below meth c T' (locs ++ L) (cells + mc) (slots + ms) ∧ (∀ q ∈ L, free q.base) ∧ T'.heap = t.heap ∧ T'.vm = t.vm ∧ Qa st₀ (.returned v) t ∧
      Goes p e below T g T' { g with pc := g.pc + 3, stack := v.toList ++ rest }) ∨
    (∃ (q : Addr) (st₀ t T' : State) (L : List Loc) (E : String) (ce : Cell), st₀.heap = H ∧ Stand p l e R s m args below meth c T' (locs ++ L) (cells + mc) (slots + ms) ∧ (∀ z ∈ L, free z.base) ∧ T'.heap = t.heap ∧ T'.vm = t.vm ∧ XC E st₀ t ∧ t.heap[q]? = some ce ∧ ce.vm = .none ∧ s.vm.findClass E = some ce.cls ∧
      Steps p.tables e below (T.setTop g) ((T'.setTop { g with stack := rest }).pushFrame (.throwing q)))
def vx_X {S : Type} (px : S → Prop) (B : String → S → State → Prop) (A : Nat → Prop) : String → State → State → Prop := fun E st t => ∃ u : S, px u ∧ B E u t ∧ va_F A st t
section Runs
variable {p : Program} {l : Launch} {e : Env} {R : Room} {s : State} {m : MethodId} {args : Array Value} {below : List Frame} {meth : Method} {c : Code} {H : Heap} {locs : List Loc} {cells slots : Nat}
variable {y : MethodName} {bytes cc : ByteArray} {maxL nL mc ms n index : Nat} {ret : Option FieldType} {ws : List Cond} {rm : Room} {Pc : Array Value → State → Prop} {Qc : Array Value → State → Outcome → State → Prop} {XC : String → State → State → Prop} {free : Addr → Prop} {Ts : List Cond} {own C : String} {b : Addr} {As rest : List Value} {g : JFrame}
theorem vx_callBack (cb : CallB R s args own index y bytes maxL ret ws rm mc ms n) (hM : vx_Met l y ws rm Pc Qc XC mc ms free) (hbl : FrameBlind Pc) : vx_Back l R p e below s args y 3 8 (PreOf R mc ms Pc) (PostOf Qc mc ms free) (vx_Post XC mc ms free) := by
  obtain ⟨hrc, hrs, hfr, hlo, hws, hcw, -, hini, -⟩ := cb
  exact vx_back (bytes := bytes) (maxL := maxL) (ret := ret) hM hbl hrc hrs hfr hlo hws hcw (fun a' U hW => word_at hW (Or.inl (by first | rfl | simp [Cond.onTables, Cond.keeps, Cond.steady])) hini)
theorem vx_runV (S : CallFix p m c cc nL s args Ts own) (hM : vx_Met l y ws rm Pc Qc XC mc ms free) (cw : CallW R s args own C index y bytes maxL ret ws rm mc ms n) (hp : PreV s H C b Pc As)
    (hg : g.method = m) (hn : As.length = n) (hsize : g.locals.size = nL) (hstack : g.stack = As.reverse ++ .ref b :: rest) (hW : 2 * g.monitorRoom + (rest.map fun v => v.category).sum ≤ 8) (hdg : decode cc g.pc = .ok (.invokevirtual index, 3)) (hf : cells + mc ≤ R.cells ∧ slots + ms ≤ R.slots) :
    vx_Run p l e R s m args below meth c H locs cells slots mc ms g rest (Qc (Value.ref b :: As).toArray) XC free := by
  have hK : vx_Back l R p e below s args y 3 8 (PreOf R mc ms Pc) (PostOf Qc mc ms free) (vx_Post XC mc ms free) := vx_callBack cw.1 hM hp.1
  obtain ⟨⟨-, -, -, -, -, -, hcode, -, hy, hlen, hl⟩, hin, hse⟩ := cw
  obtain ⟨hx, hb, hml, ho, -⟩ := S
  obtain ⟨-, ⟨cellB, hcB, hoB, hclB⟩, hPc⟩ := hp
  intro T hT X
  rcases vx_callV X hx (C := C) (bytes := bytes) (maxL := maxL) (ret := ret) ho hl hin hse hcode hy hK (by rw [hT]; exact hcB) hoB hclB hg (hsize.trans hml.symm) (argsL := As) (rest := rest) (fun sig h => hn.trans (hlen sig h)) hstack hW (by rw [hb]; exact hdg)
    (fun vm₁ hW₁ => ⟨hf.1, hf.2, hPc (T.setVm vm₁) hT hW₁⟩) with ⟨v, vm₁, ⟨U', l2, c2, s2⟩, hW₁, X', ⟨g', mk, t, L, e1, e2, hq, h1, hL, h2, h3⟩, st⟩ | ⟨q, vm₁, ⟨U', l2, c2, s2⟩, hW₁, X', ⟨g', mk, t, L, E, ce, e1, e2, hq, hce, hcv, hcl, h1, hL, h2, h3⟩, st⟩
  · dsimp only [Pt.U, Pt.locs, Pt.cells, Pt.slots] at X' e1 e2 h1 h2 h3 st
    subst h1; subst h2; subst h3
    exact Or.inl ⟨v, (T.setVm vm₁).calling g' mk (Value.ref b :: As).toArray, t, U', L, hT, X', hL, e1, e2, hq, st⟩
  · dsimp only [Pt.U, Pt.locs, Pt.cells, Pt.slots] at X' e1 e2 h1 h2 h3 st hcl
    subst h1; subst h2; subst h3
    exact Or.inr ⟨q, (T.setVm vm₁).calling g' mk (Value.ref b :: As).toArray, t, U', L, E, ce, hT, X', hL, e1, e2, hq, hce, hcv, vx_cls hW₁ hcl, st⟩
theorem vx_runS (S : CallFix p m c cc nL s args Ts own) (hM : vx_Met l y ws rm Pc Qc XC mc ms free) (cw : CallB R s args own index y bytes maxL ret ws rm mc ms n ∧ (Cond.static y).before args s = true) (hp : PreS s H Pc As)
    (hg : g.method = m) (hn : As.length = n) (hsize : g.locals.size = nL) (hstack : g.stack = As.reverse ++ rest) (hW : 2 * g.monitorRoom + (rest.map fun v => v.category).sum ≤ 8) (hdg : decode cc g.pc = .ok (.invokestatic index, 3)) (hf : cells + mc ≤ R.cells ∧ slots + ms ≤ R.slots) :
    vx_Run p l e R s m args below meth c H locs cells slots mc ms g rest (Qc As.toArray) XC free := by
  have hK : vx_Back l R p e below s args y 3 8 (PreOf R mc ms Pc) (PostOf Qc mc ms free) (vx_Post XC mc ms free) := vx_callBack cw.1 hM hp.1
  obtain ⟨⟨-, -, -, -, -, -, hcode, hini, hy, hlen, hl⟩, hstt⟩ := cw
  obtain ⟨hx, hb, hml, ho, -⟩ := S
  intro T hT X
  rcases vx_callS X hx (bytes := bytes) (maxL := maxL) (ret := ret) ho hl hstt hini hcode hy hK hg (hsize.trans hml.symm) (argsL := As) (rest := rest) (fun sig h => hn.trans (hlen sig h)) hstack hW (by rw [hb]; exact hdg)
    (fun vm₁ hW₁ => ⟨hf.1, hf.2, hp.2 (T.setVm vm₁) hT hW₁⟩) with ⟨v, vm₁, ⟨U', l2, c2, s2⟩, hW₁, X', ⟨g', mk, t, L, e1, e2, hq, h1, hL, h2, h3⟩, st⟩ | ⟨q, vm₁, ⟨U', l2, c2, s2⟩, hW₁, X', ⟨g', mk, t, L, E, ce, e1, e2, hq, hce, hcv, hcl, h1, hL, h2, h3⟩, st⟩
  · dsimp only [Pt.U, Pt.locs, Pt.cells, Pt.slots] at X' e1 e2 h1 h2 h3 st
    subst h1; subst h2; subst h3
    exact Or.inl ⟨v, (T.setVm vm₁).calling g' mk As.toArray, t, U', L, hT, X', hL, e1, e2, hq, st⟩
  · dsimp only [Pt.U, Pt.locs, Pt.cells, Pt.slots] at X' e1 e2 h1 h2 h3 st hcl
    subst h1; subst h2; subst h3
    exact Or.inr ⟨q, (T.setVm vm₁).calling g' mk As.toArray, t, U', L, E, ce, hT, X', hL, e1, e2, hq, hce, hcv, vx_cls hW₁ hcl, st⟩
end Runs
section Rows
variable {p : Program} {l : Launch} {e : Env} {R : Room} {s : State} {m : MethodId} {args : Array Value} {below : List Frame} {meth : Method} {c : Code} {H : Heap} {locs : List Loc} {cells slots : Nat} {Q : State → Prop}
variable {mc ms : Nat} {free : Addr → Prop} {A0 A1 : Nat → Prop} {H0 : Heap} {a : Array Value} {pc : Nat} {ls : Array Slot} {st0 rest : List Value}
theorem vx_keep {st₀ t T' : State} {L : List Loc} (h0 : st₀.heap = H) (e1 : T'.heap = t.heap) (hS : va_S A0 H0 H locs) (hA : ∀ q, q < H.size → A1 q → A0 q) (hf : ∀ q, free q → A0 q) (hL : ∀ q ∈ L, free q.base) (hF : va_F A1 st₀ t) :
    H.size ≤ T'.heap.size ∧ (∀ q : Nat, q < H.size → ¬ A1 q → T'.heap[q]? = H[q]?) ∧ va_S A0 H0 T'.heap (locs ++ L) := by
  obtain ⟨hz, hk⟩ := hF
  rw [h0] at hz hk
  exact ⟨by rw [e1]; exact hz, fun q h1 h2 => by rw [e1]; exact hk q h1 h2,
    ⟨Nat.le_trans hS.1 (by rw [e1]; exact hz), fun q h1 h2 => by rw [e1, hk q (Nat.lt_of_lt_of_le h1 hS.1) (fun z => h2 (hA q (Nat.lt_of_lt_of_le h1 hS.1) z))]; exact hS.2.1 q h1 h2, fun q hq => by
      rcases List.mem_append.mp hq with h | h
      · exact hS.2.2 q h
      · exact hf _ (hL q h)⟩⟩
theorem vx_calli {S SX : Type} {post : Int32 → S → Prop} {px : SX → Prop} {B : S → State → Prop} {BX : String → SX → State → Prop} {AX : Nat → Prop} (hr : vx_Run p l e R s m args below meth c H locs cells slots mc ms (F0 m pc ls st0) rest (va_Qi post B A1 a) (vx_X px BX AX) free) (hS : va_S A0 H0 H locs) (hA : ∀ q, q < H.size → A1 q → A0 q) (hf : ∀ q, free q → A0 q) (hAX : ∀ q, q < H.size → AX q → A0 q)
    (kx : ∀ (E : String) (ce : Cell) (q9 : Addr) (u : SX) (t : State) (H1 : Heap) (locs1 : List Loc), t.heap = H1 → s.vm.Alike t.vm → px u → BX E u t → H.size ≤ H1.size → (∀ q : Nat, q < H.size → ¬ AX q → H1[q]? = H[q]?) → va_S A0 H0 H1 locs1 → H1[q9]? = some ce → ce.vm = .none → s.vm.findClass E = some ce.cls → vx_W p l e R s m args below meth c H1 locs1 (cells + mc) (slots + ms) Q (F0 m pc ls rest) q9)
    (kk : ∀ (r : Int32) (u : S) (t : State) (H1 : Heap) (locs1 : List Loc), t.heap = H1 → s.vm.Alike t.vm → post r u → B u t → H.size ≤ H1.size → (∀ q : Nat, q < H.size → ¬ A1 q → H1[q]? = H[q]?) → va_S A0 H0 H1 locs1 → W p l e R s m args below meth c H1 locs1 (cells + mc) (slots + ms) Q (F0 m (pc + 3) ls (.int r :: rest))) : W p l e R s m args below meth c H locs cells slots Q (F0 m pc ls st0) := by
  intro T hT X
  rcases hr T hT X with ⟨v, st₀, t, T', L, h0, X', hL, e1, e2, ⟨⟨r, u, hv, hp, hb⟩, hF⟩, st⟩ | ⟨q, st₀, t, T', L, E, ce, h0, X', hL, e1, e2, ⟨u, hp, hb, hF⟩, hce, hcv, hcl, st⟩
  · cases hv
    obtain ⟨k1, k2, k3⟩ := vx_keep h0 e1 hS hA hf hL hF
    obtain ⟨t2, a1, b1⟩ := kk r u t T'.heap (locs ++ L) e1.symm (by rw [← e2]; exact X'.warmed.alike) hp hb k1 k2 k3 T' rfl X'
    exact ⟨t2, st t2 a1, b1⟩
  · obtain ⟨k1, k2, k3⟩ := vx_keep h0 e1 hS hAX hf hL hF
    obtain ⟨t2, a1, b1⟩ := kx E ce q u t T'.heap (locs ++ L) e1.symm (by rw [← e2]; exact X'.warmed.alike) hp hb k1 k2 k3 (by rw [e1]; exact hce) hcv hcl T' rfl X'
    exact ⟨t2, st.trans a1, b1⟩
theorem vx_calll {S SX : Type} {post : Int64 → S → Prop} {px : SX → Prop} {B : S → State → Prop} {BX : String → SX → State → Prop} {AX : Nat → Prop} (hr : vx_Run p l e R s m args below meth c H locs cells slots mc ms (F0 m pc ls st0) rest (va_Ql post B A1 a) (vx_X px BX AX) free) (hS : va_S A0 H0 H locs) (hA : ∀ q, q < H.size → A1 q → A0 q) (hf : ∀ q, free q → A0 q) (hAX : ∀ q, q < H.size → AX q → A0 q)
    (kx : ∀ (E : String) (ce : Cell) (q9 : Addr) (u : SX) (t : State) (H1 : Heap) (locs1 : List Loc), t.heap = H1 → s.vm.Alike t.vm → px u → BX E u t → H.size ≤ H1.size → (∀ q : Nat, q < H.size → ¬ AX q → H1[q]? = H[q]?) → va_S A0 H0 H1 locs1 → H1[q9]? = some ce → ce.vm = .none → s.vm.findClass E = some ce.cls → vx_W p l e R s m args below meth c H1 locs1 (cells + mc) (slots + ms) Q (F0 m pc ls rest) q9)
    (kk : ∀ (r : Int64) (u : S) (t : State) (H1 : Heap) (locs1 : List Loc), t.heap = H1 → s.vm.Alike t.vm → post r u → B u t → H.size ≤ H1.size → (∀ q : Nat, q < H.size → ¬ A1 q → H1[q]? = H[q]?) → va_S A0 H0 H1 locs1 → W p l e R s m args below meth c H1 locs1 (cells + mc) (slots + ms) Q (F0 m (pc + 3) ls (.long r :: rest))) : W p l e R s m args below meth c H locs cells slots Q (F0 m pc ls st0) := by
  intro T hT X
  rcases hr T hT X with ⟨v, st₀, t, T', L, h0, X', hL, e1, e2, ⟨⟨r, u, hv, hp, hb⟩, hF⟩, st⟩ | ⟨q, st₀, t, T', L, E, ce, h0, X', hL, e1, e2, ⟨u, hp, hb, hF⟩, hce, hcv, hcl, st⟩
  · cases hv
    obtain ⟨k1, k2, k3⟩ := vx_keep h0 e1 hS hA hf hL hF
    obtain ⟨t2, a1, b1⟩ := kk r u t T'.heap (locs ++ L) e1.symm (by rw [← e2]; exact X'.warmed.alike) hp hb k1 k2 k3 T' rfl X'
    exact ⟨t2, st t2 a1, b1⟩
  · obtain ⟨k1, k2, k3⟩ := vx_keep h0 e1 hS hAX hf hL hF
    obtain ⟨t2, a1, b1⟩ := kx E ce q u t T'.heap (locs ++ L) e1.symm (by rw [← e2]; exact X'.warmed.alike) hp hb k1 k2 k3 (by rw [e1]; exact hce) hcv hcl T' rfl X'
    exact ⟨t2, st.trans a1, b1⟩
theorem vx_callf {S SX : Type} {post : UInt32 → S → Prop} {px : SX → Prop} {B : S → State → Prop} {BX : String → SX → State → Prop} {AX : Nat → Prop} (hr : vx_Run p l e R s m args below meth c H locs cells slots mc ms (F0 m pc ls st0) rest (va_Qf post B A1 a) (vx_X px BX AX) free) (hS : va_S A0 H0 H locs) (hA : ∀ q, q < H.size → A1 q → A0 q) (hf : ∀ q, free q → A0 q) (hAX : ∀ q, q < H.size → AX q → A0 q)
    (kx : ∀ (E : String) (ce : Cell) (q9 : Addr) (u : SX) (t : State) (H1 : Heap) (locs1 : List Loc), t.heap = H1 → s.vm.Alike t.vm → px u → BX E u t → H.size ≤ H1.size → (∀ q : Nat, q < H.size → ¬ AX q → H1[q]? = H[q]?) → va_S A0 H0 H1 locs1 → H1[q9]? = some ce → ce.vm = .none → s.vm.findClass E = some ce.cls → vx_W p l e R s m args below meth c H1 locs1 (cells + mc) (slots + ms) Q (F0 m pc ls rest) q9)
    (kk : ∀ (r : UInt32) (u : S) (t : State) (H1 : Heap) (locs1 : List Loc), t.heap = H1 → s.vm.Alike t.vm → post r u → B u t → H.size ≤ H1.size → (∀ q : Nat, q < H.size → ¬ A1 q → H1[q]? = H[q]?) → va_S A0 H0 H1 locs1 → W p l e R s m args below meth c H1 locs1 (cells + mc) (slots + ms) Q (F0 m (pc + 3) ls (.float r :: rest))) : W p l e R s m args below meth c H locs cells slots Q (F0 m pc ls st0) := by
  intro T hT X
  rcases hr T hT X with ⟨v, st₀, t, T', L, h0, X', hL, e1, e2, ⟨⟨r, u, hv, hp, hb⟩, hF⟩, st⟩ | ⟨q, st₀, t, T', L, E, ce, h0, X', hL, e1, e2, ⟨u, hp, hb, hF⟩, hce, hcv, hcl, st⟩
  · cases hv
    obtain ⟨k1, k2, k3⟩ := vx_keep h0 e1 hS hA hf hL hF
    obtain ⟨t2, a1, b1⟩ := kk r u t T'.heap (locs ++ L) e1.symm (by rw [← e2]; exact X'.warmed.alike) hp hb k1 k2 k3 T' rfl X'
    exact ⟨t2, st t2 a1, b1⟩
  · obtain ⟨k1, k2, k3⟩ := vx_keep h0 e1 hS hAX hf hL hF
    obtain ⟨t2, a1, b1⟩ := kx E ce q u t T'.heap (locs ++ L) e1.symm (by rw [← e2]; exact X'.warmed.alike) hp hb k1 k2 k3 (by rw [e1]; exact hce) hcv hcl T' rfl X'
    exact ⟨t2, st.trans a1, b1⟩
theorem vx_calld {S SX : Type} {post : UInt64 → S → Prop} {px : SX → Prop} {B : S → State → Prop} {BX : String → SX → State → Prop} {AX : Nat → Prop} (hr : vx_Run p l e R s m args below meth c H locs cells slots mc ms (F0 m pc ls st0) rest (va_Qd post B A1 a) (vx_X px BX AX) free) (hS : va_S A0 H0 H locs) (hA : ∀ q, q < H.size → A1 q → A0 q) (hf : ∀ q, free q → A0 q) (hAX : ∀ q, q < H.size → AX q → A0 q)
    (kx : ∀ (E : String) (ce : Cell) (q9 : Addr) (u : SX) (t : State) (H1 : Heap) (locs1 : List Loc), t.heap = H1 → s.vm.Alike t.vm → px u → BX E u t → H.size ≤ H1.size → (∀ q : Nat, q < H.size → ¬ AX q → H1[q]? = H[q]?) → va_S A0 H0 H1 locs1 → H1[q9]? = some ce → ce.vm = .none → s.vm.findClass E = some ce.cls → vx_W p l e R s m args below meth c H1 locs1 (cells + mc) (slots + ms) Q (F0 m pc ls rest) q9)
    (kk : ∀ (r : UInt64) (u : S) (t : State) (H1 : Heap) (locs1 : List Loc), t.heap = H1 → s.vm.Alike t.vm → post r u → B u t → H.size ≤ H1.size → (∀ q : Nat, q < H.size → ¬ A1 q → H1[q]? = H[q]?) → va_S A0 H0 H1 locs1 → W p l e R s m args below meth c H1 locs1 (cells + mc) (slots + ms) Q (F0 m (pc + 3) ls (.double r :: rest))) : W p l e R s m args below meth c H locs cells slots Q (F0 m pc ls st0) := by
  intro T hT X
  rcases hr T hT X with ⟨v, st₀, t, T', L, h0, X', hL, e1, e2, ⟨⟨r, u, hv, hp, hb⟩, hF⟩, st⟩ | ⟨q, st₀, t, T', L, E, ce, h0, X', hL, e1, e2, ⟨u, hp, hb, hF⟩, hce, hcv, hcl, st⟩
  · cases hv
    obtain ⟨k1, k2, k3⟩ := vx_keep h0 e1 hS hA hf hL hF
    obtain ⟨t2, a1, b1⟩ := kk r u t T'.heap (locs ++ L) e1.symm (by rw [← e2]; exact X'.warmed.alike) hp hb k1 k2 k3 T' rfl X'
    exact ⟨t2, st t2 a1, b1⟩
  · obtain ⟨k1, k2, k3⟩ := vx_keep h0 e1 hS hAX hf hL hF
    obtain ⟨t2, a1, b1⟩ := kx E ce q u t T'.heap (locs ++ L) e1.symm (by rw [← e2]; exact X'.warmed.alike) hp hb k1 k2 k3 (by rw [e1]; exact hce) hcv hcl T' rfl X'
    exact ⟨t2, st.trans a1, b1⟩
theorem vx_callv {S SX : Type} {post : S → Prop} {px : SX → Prop} {B : S → State → Prop} {BX : String → SX → State → Prop} {AX : Nat → Prop} (hr : vx_Run p l e R s m args below meth c H locs cells slots mc ms (F0 m pc ls st0) rest (va_Qv post B A1 a) (vx_X px BX AX) free) (hS : va_S A0 H0 H locs) (hA : ∀ q, q < H.size → A1 q → A0 q) (hf : ∀ q, free q → A0 q) (hAX : ∀ q, q < H.size → AX q → A0 q)
    (kx : ∀ (E : String) (ce : Cell) (q9 : Addr) (u : SX) (t : State) (H1 : Heap) (locs1 : List Loc), t.heap = H1 → s.vm.Alike t.vm → px u → BX E u t → H.size ≤ H1.size → (∀ q : Nat, q < H.size → ¬ AX q → H1[q]? = H[q]?) → va_S A0 H0 H1 locs1 → H1[q9]? = some ce → ce.vm = .none → s.vm.findClass E = some ce.cls → vx_W p l e R s m args below meth c H1 locs1 (cells + mc) (slots + ms) Q (F0 m pc ls rest) q9)
    (kk : ∀ (u : S) (t : State) (H1 : Heap) (locs1 : List Loc), t.heap = H1 → s.vm.Alike t.vm → post u → B u t → H.size ≤ H1.size → (∀ q : Nat, q < H.size → ¬ A1 q → H1[q]? = H[q]?) → va_S A0 H0 H1 locs1 → W p l e R s m args below meth c H1 locs1 (cells + mc) (slots + ms) Q (F0 m (pc + 3) ls (rest))) : W p l e R s m args below meth c H locs cells slots Q (F0 m pc ls st0) := by
  intro T hT X
  rcases hr T hT X with ⟨v, st₀, t, T', L, h0, X', hL, e1, e2, ⟨⟨u, hv, hp, hb⟩, hF⟩, st⟩ | ⟨q, st₀, t, T', L, E, ce, h0, X', hL, e1, e2, ⟨u, hp, hb, hF⟩, hce, hcv, hcl, st⟩
  · cases hv
    obtain ⟨k1, k2, k3⟩ := vx_keep h0 e1 hS hA hf hL hF
    obtain ⟨t2, a1, b1⟩ := kk u t T'.heap (locs ++ L) e1.symm (by rw [← e2]; exact X'.warmed.alike) hp hb k1 k2 k3 T' rfl X'
    exact ⟨t2, st t2 a1, b1⟩
  · obtain ⟨k1, k2, k3⟩ := vx_keep h0 e1 hS hAX hf hL hF
    obtain ⟨t2, a1, b1⟩ := kx E ce q u t T'.heap (locs ++ L) e1.symm (by rw [← e2]; exact X'.warmed.alike) hp hb k1 k2 k3 (by rw [e1]; exact hce) hcv hcl T' rfl X'
    exact ⟨t2, st.trans a1, b1⟩
/-- caught by the row x of this method's table; the rows ahead don't take it -/
theorem vx_catch {own name : String} {E : String} {ce : Cell} {q : Addr} (hown : s.vm.findClass own = some m.cls) (pre : List ExceptionTableEntry) (x : ExceptionTableEntry) (suf : List ExceptionTableEntry) (hsplit : c.exceptionTable.toList = pre ++ x :: suf)
    (hpass : ∀ z ∈ pre, covers z pc = false ∨ (z.catchType ≠ 0 ∧ ∃ nm : String, (Cond.classLink own z.catchType nm).before args s = true ∧ va_Nc E nm s)) (hx : covers x pc = true) (h0 : x.catchType ≠ 0)
    (hlink : (Cond.classLink own x.catchType name).before args s = true) (hcast : (Cond.castable E name).before args s = true) (hcell : H[q]? = some ce) (hv : ce.vm = .none) (hcl : s.vm.findClass E = some ce.cls)
    (kk : W p l e R s m args below meth c H locs cells slots Q (F0 m x.handlerPc ls [.ref q])) : vx_W p l e R s m args below meth c H locs cells slots Q (F0 m pc ls rest) q := by
  intro T hT X
  have hpl : e.platform.magicAccessors = ({} : Platform).magicAccessors := by rw [X.admits.platform]
  obtain ⟨c3, c4, hc3, hc4, hasg⟩ := Cond.castable_spec hcast
  cases Option.some.inj (hc3.symm.trans hcl)
  obtain ⟨c5, hc5, hcl5⟩ := Cond.classLink_spec hown hlink e.platform hpl
  cases Option.some.inj (hc4.symm.trans hc5)
  obtain ⟨vm', X', st⟩ := X.thenCaughtThrough q (g := F0 m pc ls rest) rfl (Steps.refl _) (by rw [hT]; exact hcell) (by rw [hv]; rfl) (by obtain ⟨k9, h9, -⟩ := Vm.findClass_spec hcl; exact ⟨k9, h9⟩) pre x suf hsplit
    (fun z hz => by
      rcases hpass z hz with h | ⟨hz0, nm, hl1, hn1⟩
      · exact Or.inl h
      · obtain ⟨c6, hc6, hcl6⟩ := Cond.classLink_spec hown hl1 e.platform hpl
        obtain ⟨a8, b8, h1, h2, h3⟩ := hn1
        cases Option.some.inj (h1.symm.trans hcl)
        cases Option.some.inj (h2.symm.trans hc6)
        exact Or.inr ⟨hz0, _, hcl6, h3⟩) hx (Or.inr ⟨h0, c4, hcl5, hasg⟩)
  obtain ⟨t, a1, b1⟩ := kk (T.setVm vm') hT X'
  exact ⟨t, st.trans a1, b1⟩
end Rows
section Ends
variable {p : Program} {l : Launch} {e : Env} {R : Room} {s : State} {m : MethodId} {args : Array Value} {below : List Frame} {meth : Method} {c : Code} {H : Heap} {locs : List Loc} {cells slots : Nat} {Q : State → Prop}
variable {mc ms : Nat} {free : Addr → Prop} {A0 A1 : Nat → Prop} {H0 : Heap} {a : Array Value} {ls : Array Slot} {st0 rest : List Value}
variable {Qc : Array Value → State → Outcome → State → Prop} {XC : String → State → State → Prop}
/-- what a body that may throw owes at its end -/
def vx_MQ (below : List Frame) (Qc : Array Value → State → Outcome → State → Prop) (XC : String → State → State → Prop) (a : Array Value) (s : State) (mc ms : Nat) (free : Addr → Prop) : State → Prop := fun t =>
  ∃ o, t.status = .running ∧ Ended t below o ∧ vx_Q Qc XC mc ms free a s o t
theorem vx_ret {g : JFrame} {mc ms : Nat} (k : W p l e R s m args below meth c H locs cells slots (MQ below Qc args s mc ms free) g) : W p l e R s m args below meth c H locs cells slots (vx_MQ below Qc XC args s mc ms free) g := by
  intro T hT X
  obtain ⟨t, a1, o, b1, b2, b3, b4⟩ := k T hT X
  exact ⟨t, a1, o, b1, b2, Or.inl ⟨b3, b4⟩⟩
/-- not caught here: it goes on to the caller -/
theorem vx_widen {g : JFrame} {q : Addr} {k n : Nat} (h1 : cells ≤ k) (h2 : slots ≤ n) (kk : vx_W p l e R s m args below meth c H locs k n Q g q) : vx_W p l e R s m args below meth c H locs cells slots Q g q := fun T hT X => kk T hT (stand_widen X h1 h2)
theorem vx_out {pc : Nat} {E : String} {ce : Cell} {q : Addr} {mc ms : Nat} (hout : ∀ x ∈ c.exceptionTable.toList, covers x pc = false) (hlocks : meth.locks = false) (hcell : H[q]? = some ce) (hv : ce.vm = .none) (hcl : s.vm.findClass E = some ce.cls)
    (hx : ∀ t : State, t.heap = H → s.vm.Alike t.vm → XC E s t) (hf : ∀ z ∈ locs, free z.base) (hc : cells ≤ mc) (hs : slots ≤ ms) :
    vx_W p l e R s m args below meth c H locs cells slots (vx_MQ below Qc XC args s mc ms free) (F0 m pc ls rest) q := by
  intro T hT X
  obtain ⟨st1, hrun, hend, hW, hsm⟩ := X.leaveThrown q (g := F0 m pc ls rest) rfl rfl rfl hout hlocks
  have hcell9 : (T.setFrames (.throwing q :: below)).heap[q]? = some ce := by
    show T.heap[q]? = some ce
    rw [hT]; exact hcell
  exact ⟨_, st1, .threw q, hrun, hend, Or.inr ⟨q, rfl, E, ce, locs, hx _ hT hW.alike, hcell9, hv, hcl, hW, hsm.mono hc hs, hf⟩⟩
theorem vx_frame {U : State} {k n : Nat} (h : s.sameButNew ({ U with vm := s.vm } : State) locs k n) : s.heap.size ≤ U.heap.size ∧ ∀ q : Nat, q < s.heap.size → (∀ z ∈ locs, z.base ≠ q) → U.heap[q]? = s.heap[q]? := by
  obtain ⟨-, h2, -, -, -, h6⟩ := h
  refine ⟨h2, fun q hq hz => ?_⟩
  obtain ⟨c9, e1, e2, e3, e4⟩ := h6 q _ (Array.getElem?_eq_getElem hq)
  have hs : c9.slots = (s.heap[q]).slots := Array.ext_getElem? fun i => e4 i fun hm => hz _ hm rfl
  have h9 : c9 = s.heap[q] := by
    rw [hs] at e2
    exact e2
  have e5 : U.heap[q]? = some c9 := e1
  rw [e5, h9, Array.getElem?_eq_getElem hq]
def vx_at0 (own : String) (ic : Nat) (X : String) (names : List String) : List Cond := (Bundle.ownAtoms0 own ic X names).filter vx_no
/-- a word that the tables alone decide, or a good one -/
def vx_ot (w : Cond) : Bool := w.onTables || goodWord w
theorem vx_ot_at {args a' : Array Value} {s U : State} {w : Cond} (hW : s.WarmedH U.vm) (hvm : s.vm = U.vm) (hg : vx_ot w = true) (h : w.before args s = true) : w.before a' U = true := by
  simp only [vx_ot, Bool.or_eq_true] at hg
  rcases hg with hg | hg
  · exact va_tabs hg hvm h
  · exact word_at hW (good_of_word hg) h
/-- a list's words: the good ones out of the method's own list, the others by premises of their own -/
theorem vx_hat {args : Array Value} {s : State} {L B : List Cond} (h1 : ∀ w ∈ L.filter goodWord, w.before args s = true) (h2 : ∀ w ∈ L.filter (fun w => !goodWord w), w ∈ B) (h3 : ∀ w ∈ B, w.before args s = true) : ∀ w ∈ L, w.before args s = true := by
  intro w hw
  by_cases g : goodWord w = true
  · exact h1 w (List.mem_filter.mpr ⟨hw, g⟩)
  · refine h3 w (h2 w (List.mem_filter.mpr ⟨hw, ?_⟩))
    show (!goodWord w) = true
    cases hgw : goodWord w
    · rfl
    · exact absurd hgw g
theorem vx_c {args : Array Value} {s : State} {w : Cond} {B : List Cond} (h : w.before args s = true) (t : ∀ w ∈ B, w.before args s = true) : ∀ w' ∈ w :: B, w'.before args s = true := fun w' h' => (List.mem_cons.mp h').elim (fun e => by rw [e]; exact h) (t w')
theorem vx_n {args : Array Value} {s : State} : ∀ w ∈ ([] : List Cond), w.before args s = true := fun _ h => nomatch h
theorem vx_own {args : Array Value} {s : State} {L : List Cond} (h1 : ∀ w ∈ L.filter vx_no, w.before args s = true)
    (hU : (Cond.isRef (.static Bundle.tN "UNASSIGNED_STACK" Bundle.steD)).before args s = true) (hN : (Cond.isRef (.static Bundle.tN "SUPPRESSED_SENTINEL" Bundle.listD)).before args s = true)
    (lU : (Cond.laysStatic Bundle.tN "UNASSIGNED_STACK" Bundle.steD).before args s = true) (lN : (Cond.laysStatic Bundle.tN "SUPPRESSED_SENTINEL" Bundle.listD).before args s = true) : ∀ w ∈ L, w.before args s = true := by
  intro w hw
  by_cases e1 : w = .isRef (.static Bundle.tN "UNASSIGNED_STACK" Bundle.steD)
  · rw [e1]; exact hU
  · by_cases e2 : w = .isRef (.static Bundle.tN "SUPPRESSED_SENTINEL" Bundle.listD)
    · rw [e2]; exact hN
    · by_cases e3 : w = .laysStatic Bundle.tN "UNASSIGNED_STACK" Bundle.steD
      · rw [e3]; exact lU
      · by_cases e4 : w = .laysStatic Bundle.tN "SUPPRESSED_SENTINEL" Bundle.listD
        · rw [e4]; exact lN
        · exact h1 w (List.mem_filter.mpr ⟨hw, by unfold vx_no; rw [decide_eq_true e1, decide_eq_true e2, decide_eq_true e3, decide_eq_true e4]; rfl⟩)
/-- where a static field lies, its class's statics cell in H -/
def vx_L (C n d : String) (A : Nat → Prop) (U : State) (H : Heap) : Prop := ∃ (c : ClassId) (k : Class) (i : Nat) (f : Field) (a : Nat) (cell : Cell), U.vm.findClass C = some c ∧ U.fieldFound? C n d = some (c, k, i, f) ∧ f.isStatic = true ∧ k.statics = some a ∧ H[a]? = some cell ∧ cell.vm.isStatics = true ∧ cell.cls = c ∧ f.slot < cell.slots.size ∧ k.staticTypes[f.slot]? = some f.type ∧ ¬ A a
theorem vx_L.moved {C n d : String} {A : Nat → Prop} {u U : State} {H : Heap} (hvm : u.vm.Alike U.vm) (h : vx_L C n d A u H) : vx_L C n d A U H := by
  obtain ⟨c, k, i, f, a, cell, h1, h2, h3, h4, h5, h6, h7, h8, h9, h10⟩ := h
  obtain ⟨k', hi', he⟩ := State.fieldFound?_setVm hvm h2
  exact ⟨c, k', i, f, a, cell, by rw [hvm.findClass]; exact h1, hi', h3, by rw [he]; exact h4, h5, h6, h7, h8, by rw [he]; exact h9, h10⟩
theorem vx_L.kept {C n d : String} {A : Nat → Prop} {U : State} {H H1 : Heap} (h : vx_L C n d A U H) (hq : ∀ a : Nat, a < H.size → ¬ A a → H1[a]? = H[a]?) : vx_L C n d A U H1 := by
  obtain ⟨c, k, i, f, a, cell, h1, h2, h3, h4, h5, h6, h7, h8, h9, h10⟩ := h
  exact ⟨c, k, i, f, a, cell, h1, h2, h3, h4, by rw [hq a (Array.getElem?_eq_some_iff.mp h5).1 h10]; exact h5, h6, h7, h8, h9, h10⟩
theorem vx_L.narrow {C n d : String} {A B : Nat → Prop} {U : State} {H : Heap} (h : vx_L C n d A U H) (hAB : ∀ q, B q → A q) : vx_L C n d B U H := by
  obtain ⟨c, k, i, f, a, cell, h1, h2, h3, h4, h5, h6, h7, h8, h9, h10⟩ := h
  exact ⟨c, k, i, f, a, cell, h1, h2, h3, h4, h5, h6, h7, h8, h9, fun z => h10 (hAB _ z)⟩
theorem vx_L.word {C n d : String} {A : Nat → Prop} {s : State} {args : Array Value} (h : vx_L C n d A s s.heap) : (Cond.laysStatic C n d).before args s = true := by
  obtain ⟨c, k, i, f, a, cell, h1, h2, h3, h4, h5, h6, h7, h8, h9, -⟩ := h
  show (Cond.laysStatic C n d).holds args s none s [] = true
  exact Cond.laysStatic_of h1 h2 h3 h4 h5 h6 h7 h8 h9
/-- .. and what it holds: null or some reference -/
def vx_Zq (C n d : String) (A : Nat → Prop) (U : State) (H : Heap) : Prop := va_Zq C n d A U H ∧ vx_L C n d A U H
theorem vx_Zq.moved {C n d : String} {A : Nat → Prop} {u U : State} {H : Heap} (hvm : u.vm.Alike U.vm) (h : vx_Zq C n d A u H) : vx_Zq C n d A U H := ⟨va_Zq.moved hvm h.1, vx_L.moved hvm h.2⟩
theorem vx_Zq.kept {C n d : String} {A : Nat → Prop} {U : State} {H H1 : Heap} (h : vx_Zq C n d A U H) (hq : ∀ a : Nat, a < H.size → ¬ A a → H1[a]? = H[a]?) : vx_Zq C n d A U H1 := ⟨va_Zq.kept h.1 hq, vx_L.kept h.2 hq⟩
theorem vx_Zq.narrow {C n d : String} {A B : Nat → Prop} {U : State} {H : Heap} (h : vx_Zq C n d A U H) (hAB : ∀ q, B q → A q) : vx_Zq C n d B U H := ⟨va_Zq.narrow h.1 hAB, vx_L.narrow h.2 hAB⟩
theorem vx_Zqof {args : Array Value} {s : State} {C n d : String} {A : Nat → Prop} (hl : (Cond.laysStatic C n d).before args s = true) (hini : (Cond.initialized C).before args s = true) (h : (Cond.isRef (.static C n d)).before args s = true) (hA : ∀ a : Nat, a < s.heap.size → ¬ A a) : vx_Zq C n d A s s.heap := by
  refine ⟨va_Zqof hl hini h hA, ?_⟩
  obtain ⟨c, k, i, f, a, cell, h1, h2, h3, h4, h5, h6, h7, h8, h9⟩ := Cond.laysStatic_spec hl
  exact ⟨c, k, i, f, a, cell, h1, h2, h3, h4, h5, h6, h7, h8, h9, hA a (Array.getElem?_eq_some_iff.mp h5).1⟩
theorem vx_isRef {C n d : String} {v : Value} {A : Nat → Prop} {s : State} {args : Array Value} (h : va_Z C n d v A s s.heap) (hv : v.isRef = true) : (Cond.isRef (.static C n d)).before args s = true := by
  obtain ⟨cf, kf, fi, f, a, cell, h1, h2, h3, h4, h5, h6, h7, -⟩ := h
  have he : (Term.static C n d).eval args s none [] s = some v := by
    simp [Term.eval, State.fieldNamed?, h1, h2, h4, h5, h6, h7]
  simp only [Cond.before, Cond.holds, Cond.value, he]
  cases v <;> simp_all [Value.isRef]
theorem vx_isRefq {C n d : String} {A : Nat → Prop} {s : State} {args : Array Value} (h : va_Zq C n d A s s.heap) : (Cond.isRef (.static C n d)).before args s = true := by
  rcases h with h | ⟨t, h⟩
  · exact vx_isRef h rfl
  · exact vx_isRef h rfl
/-- the same frame, seen from here: as if the method were called anew in this heap -/
theorem vx_rebase {T : State} (X : Stand p l e R s m args below meth c T locs cells slots) {R' : Room} (hf : R'.frames ≤ R.frames) (hl : R'.locals ≤ R.locals) (hc : cells + R'.cells ≤ R.cells) (hs : slots + R'.slots ≤ R.slots) :
    Stand p l e R' ((T.setVm s.vm).setFrames (.invoking m args :: below)) m args below meth c T [] 0 0 := by
  have htop : (T.setVm s.vm).topJava?.isSome := X.here.top
  have hF : ((T.setVm s.vm).setFrames (.invoking m args :: below)).frames = .invoking m args :: below := State.frames_setFrames _ (State.cur_lt_of_top htop)
  obtain ⟨g₀, hg0⟩ := Option.isSome_iff_exists.mp htop
  obtain ⟨r, hr⟩ := State.topJava?_eq_some.mp hg0
  have hl9 : e.platform.stackLimits (T.setVm s.vm).me = e.platform.stackLimits s.me := X.limits
  have hb9 : (T.setVm s.vm).me.stackBytes = s.me.stackBytes := X.bytes
  refine ⟨X.admits, X.cas, X.clock, hF, ?_, X.hears, X.method, X.code, X.here, X.tail, X.warmed, ?_, ?_, ?_⟩
  · have h := X.room
    have hU : ((T.setVm s.vm).setFrames (.invoking m args :: below)).localsInUse = s.localsInUse := by
      rw [State.localsInUse_invoking hF (meth := meth) (c := c) X.method X.code, State.localsInUse_invoking X.frames X.method X.code]
    simp only [State.hasRoom, Bool.and_eq_true, decide_eq_true_eq] at h ⊢
    obtain ⟨⟨⟨⟨h1, h2, h3, h4, h5, h6⟩, h7⟩, h8⟩, h9⟩ := h
    rw [X.frames, List.length_cons] at h2 h3
    have q1 := X.heapSize
    have q2 := X.used
    simp only [hF, hU, List.length_cons, State.stackLimits_setFrames, State.stackBytes_setFrames, hl9, hb9]
    refine ⟨⟨⟨⟨by omega, by omega, by omega, by omega, by omega, h6⟩, ?_⟩, ?_⟩, X.book⟩
    · show T.heap.size + R'.cells ≤ e.platform.maxCells
      omega
    · show T.slotsUsed + R'.slots ≤ e.platform.maxSlots
      omega
  · rw [State.stackLimits_setFrames]; rfl
  · rw [State.stackBytes_setFrames]; rfl
  · refine ⟨?_, Nat.le_refl _, Nat.le_refl _, ?_, ?_, fun a c9 h9 => ⟨c9, h9, rfl, rfl, fun _ _ => rfl⟩⟩
    · obtain ⟨t, ht, -⟩ := State.frames_cons hr
      show T.setVm s.vm = { ((T.setVm s.vm).setFrames (.invoking m args :: below)).setFrames (T.setVm s.vm).frames with heap := T.heap, slotsUsed := T.slotsUsed }
      rw [State.setFrames_setFrames, State.setFrames_self ht]
      rfl
    · show T.slotsUsed = T.slotsUsed + ((T.heap.toList.drop T.heap.size).map (·.slots.size)).sum
      rw [List.drop_eq_nil_of_le (Nat.le_of_eq Array.length_toList)]
      rfl
    · show ((T.heap.toList.drop T.heap.size).map (·.slots.size)).sum ≤ 0
      rw [List.drop_eq_nil_of_le (Nat.le_of_eq Array.length_toList)]
      exact Nat.le_refl _
/-- 'throw new E()': new; dup; invokespecial; athrow -/
theorem vx_throw0 {cc : ByteArray} {pc : Nat} (hexec : p.tables.exec = Jvm.exec) (hb : c.code = cc) (hl : l.stackTraces = false) {own cls : String} {names : List String} {ik ic mc ms : Nat} {A : Nat → Prop}
    (hown : s.vm.findClass own = some m.cls) (hcls : Bundle.fit cls = true) (hnames : ∀ n ∈ names, Bundle.fit n = true)
    (hk : (Cond.classLink own ik cls).before args s = true) (hini : (Cond.initialized cls).before args s = true) (hat : ∀ w ∈ vx_at0 own ic cls names, w.before args s = true)
    (hgood : ∀ w ∈ Cond.classLink own ik cls :: Cond.initialized cls :: vx_at0 own ic cls names, vx_ot w = true)
    (hU : vx_Zq Bundle.tN "UNASSIGNED_STACK" Bundle.steD A s s.heap) (hN : vx_Zq Bundle.tN "SUPPRESSED_SENTINEL" Bundle.listD A s s.heap) (hS : va_S A s.heap H locs) (hsize : ls.size = c.maxLocals)
    (d0 : decode cc pc = .ok (.new ik, 3)) (d3 : decode cc (pc + 3) = .ok (.dup, 1)) (d4 : decode cc (pc + 4) = .ok (.invokespecial ic, 3)) (d7 : decode cc (pc + 7) = .ok (.athrow, 1))
    (hout : ∀ x ∈ c.exceptionTable.toList, covers x (pc + 7) = false)
    (hRframes : names.length + 3 < R.frames) (hRlocals : (rest.map fun v => v.category).sum + (13 * (names.length + 1) + 42) ≤ R.locals) (hRcells : cells + 1 ≤ R.cells) (hRslots : slots + 6 ≤ R.slots) (hlocks : meth.locks = false)
    (hx : ∀ t : State, s.vm.Alike t.vm → H.size ≤ t.heap.size → (∀ q : Nat, q < H.size → t.heap[q]? = H[q]?) → XC cls s t)
    (hf : ∀ z ∈ locs, free z.base) (hc : cells + 1 ≤ mc) (hs : slots + 6 ≤ ms) :
    W p l e R s m args below meth c H locs cells slots (vx_MQ below Qc XC args s mc ms free) (F0 m pc ls rest) := by
  intro T hT X
  have htr : e.platform.stackTraces = false := (show e.platform.stackTraces = l.stackTraces by rw [X.admits.platform]).trans hl
  have Y := vx_rebase X (R' := { frames := R.frames, locals := R.locals, cells := 1, slots := 6 }) (Nat.le_refl _) (Nat.le_refl _) hRcells hRslots
  obtain ⟨s', hA⟩ : ∃ z, z = (T.setVm s.vm).setFrames (.invoking m args :: below) := ⟨_, rfl⟩
  rw [← hA] at Y
  have hvm : s'.vm = s.vm := by rw [hA]; rfl
  have hhp : s'.heap = H := by rw [hA]; exact hT
  have hW0 : s.WarmedH s'.vm := by rw [hvm]; exact State.WarmedH.refl s
  have hat' : ∀ w ∈ vx_at0 own ic cls names, w.before args s' = true := fun w hw => vx_ot_at hW0 hvm.symm (hgood w (List.mem_cons_of_mem _ (List.mem_cons_of_mem _ hw))) (hat w hw)
  have hk' : (Cond.classLink own ik cls).before args s' = true := vx_ot_at hW0 hvm.symm (hgood _ List.mem_cons_self) hk
  have hini' : (Cond.initialized cls).before args s' = true := vx_ot_at hW0 hvm.symm (hgood _ (List.mem_cons_of_mem _ List.mem_cons_self)) hini
  have hU' : vx_Zq Bundle.tN "UNASSIGNED_STACK" Bundle.steD A s' s'.heap := by rw [hhp]; exact vx_Zq.moved hW0.alike (hU.kept hS.2.1)
  have hN' : vx_Zq Bundle.tN "SUPPRESSED_SENTINEL" Bundle.listD A s' s'.heap := by rw [hhp]; exact vx_Zq.moved hW0.alike (hN.kept hS.2.1)
  have h : ∀ w ∈ Bundle.ownAtoms0 own ic cls names, w.before args s' = true := vx_own hat' (vx_isRefq hU'.1) (vx_isRefq hN'.1) hU'.2.word hN'.2.word
  have hown' : s'.vm.findClass own = some m.cls := by rw [hvm]; exact hown
  have hins : (Cond.instantiable cls 6).before args s' = true := h _ (by simp [Bundle.ownAtoms0])
  obtain ⟨vm₁, cX, kX, hfX, hkX, -, -, X₁, st1⟩ := Y.newCold hexec (own := own) (C := cls) (index := ik) (n := 6) hown' hk' hins hini'
    (g := F0 m pc ls rest) rfl (by rw [hb]; exact d0) (Nat.le_refl _) (Nat.le_refl _)
  generalize hT1 : (T.setVm vm₁).pushCell { cls := cX, slots := kX.instanceTypes.map defaultValue, vm := .none } = T1 at X₁ st1
  have hcat : (Value.ref T.heap.size).category = 1 := rfl
  have hcellA : T1.heap[T.heap.size]? = some (freshCell cX kX) := by rw [← hT1]; exact State.heap_pushCell_size _ _
  have d3' : decode c.code (pc + 3) = .ok (.dup, 1) := by rw [hb]; exact d3
  obtain ⟨U, hsteps, hrun, hend, hW, hsame, ce, hce, hO⟩ := X₁.ctorThrow0 hexec htr (own := own) (cls := cls) (names := names) (ic := ic) hown' hcls hnames h (fun x hx => nomatch hx) hfX hkX hcellA (by rw [hhp, hT]; exact Nat.le_refl _)
    (g := { method := m, pc := pc + 4, locals := ls, stack := .ref T.heap.size :: .ref T.heap.size :: rest, locked := none }) rfl hsize rfl rfl (rest := rest) rfl
    (by rw [hb]; exact d4) (by rw [hb]; exact d7) hout hRframes (by simp only [List.map_cons, List.sum_cons, hcat]; omega) hlocks
  obtain ⟨f1, f2⟩ := vx_frame hsame
  rw [hhp] at f1 f2
  have hWs : s.WarmedH U.vm := State.WarmedH.trans hW0 hW
  have hcl : s.vm.findClass cls = some ce.cls := by
    have h9 := hO.cls
    rw [hvm] at h9
    exact h9
  have hall : s.sameButNew ({ U with vm := s.vm } : State) locs mc ms := by
    subst hA
    obtain ⟨e1, e2⟩ := hsame
    rw [State.setFrames_setFrames] at e1
    have h2 : (T.setVm s.vm).sameButNew ({ U with vm := s.vm } : State) [] (0 + 1) (0 + 6) := ⟨e1, e2⟩
    have h3 := X.same.trans h2
    rw [List.append_nil] at h3
    exact h3.mono hc hs
  refine ⟨U, ?_, .threw T.heap.size, hrun, hend, Or.inr ⟨T.heap.size, rfl, cls, ce, locs, hx U hWs.alike f1 (fun q hq => f2 q hq (fun z hz => nomatch hz)), hce, hO.vm, hcl, hWs, hall, hf⟩⟩
  refine st1 _ ?_
  show Steps p.tables e below (T1.setTop { method := m, pc := pc + 3, locals := ls, stack := .ref T.heap.size :: rest, locked := none }) _
  jvm_step X₁.here [X₁.here.top, hexec, d3', Value.category]
  exact hsteps
/-- 'throw new E("text")': new; dup; ldc; invokespecial; athrow -/
theorem vx_throwS {cc : ByteArray} {pc : Nat} (hexec : p.tables.exec = Jvm.exec) (hb : c.code = cc) (hl : l.stackTraces = false) {own cls text : String} {names : List String} {ik is ic mc ms sa : Nat} {A : Nat → Prop}
    (hown : s.vm.findClass own = some m.cls) (hcls : Bundle.fit cls = true) (hnames : ∀ n ∈ names, Bundle.fit n = true)
    (hk : (Cond.classLink own ik cls).before args s = true) (hini : (Cond.initialized cls).before args s = true) (hstr : vk_R own is text sa s) (hat : ∀ w ∈ vx_atS own ic cls names, w.before args s = true)
    (hgood : ∀ w ∈ Cond.classLink own ik cls :: Cond.initialized cls :: vx_atS own ic cls names, vx_ot w = true)
    (hU : vx_Zq Bundle.tN "UNASSIGNED_STACK" Bundle.steD A s s.heap) (hN : vx_Zq Bundle.tN "SUPPRESSED_SENTINEL" Bundle.listD A s s.heap) (hS : va_S A s.heap H locs) (hsize : ls.size = c.maxLocals)
    (d0 : decode cc pc = .ok (.new ik, 3)) (d3 : decode cc (pc + 3) = .ok (.dup, 1)) (d4 : decode cc (pc + 4) = .ok (.ldc is, 2)) (d6 : decode cc (pc + 6) = .ok (.invokespecial ic, 3)) (d9 : decode cc (pc + 9) = .ok (.athrow, 1))
    (hout : ∀ x ∈ c.exceptionTable.toList, covers x (pc + 9) = false)
    (hRframes : names.length + 3 < R.frames) (hRlocals : (rest.map fun v => v.category).sum + (13 * (names.length + 1) + 43) ≤ R.locals) (hRcells : cells + 1 ≤ R.cells) (hRslots : slots + 6 ≤ R.slots) (hlocks : meth.locks = false)
    (hx : ∀ t : State, s.vm.Alike t.vm → H.size ≤ t.heap.size → (∀ q : Nat, q < H.size → t.heap[q]? = H[q]?) → XC cls s t)
    (hf : ∀ z ∈ locs, free z.base) (hc : cells + 1 ≤ mc) (hs : slots + 6 ≤ ms) :
    W p l e R s m args below meth c H locs cells slots (vx_MQ below Qc XC args s mc ms free) (F0 m pc ls rest) := by
  intro T hT X
  have htr : e.platform.stackTraces = false := (show e.platform.stackTraces = l.stackTraces by rw [X.admits.platform]).trans hl
  have Y := vx_rebase X (R' := { frames := R.frames, locals := R.locals, cells := 1, slots := 6 }) (Nat.le_refl _) (Nat.le_refl _) hRcells hRslots
  obtain ⟨s', hA⟩ : ∃ z, z = (T.setVm s.vm).setFrames (.invoking m args :: below) := ⟨_, rfl⟩
  rw [← hA] at Y
  have hvm : s'.vm = s.vm := by rw [hA]; rfl
  have hhp : s'.heap = H := by rw [hA]; exact hT
  have hW0 : s.WarmedH s'.vm := by rw [hvm]; exact State.WarmedH.refl s
  have hat' : ∀ w ∈ vx_atS own ic cls names, w.before args s' = true := fun w hw => vx_ot_at hW0 hvm.symm (hgood w (List.mem_cons_of_mem _ (List.mem_cons_of_mem _ hw))) (hat w hw)
  have hk' : (Cond.classLink own ik cls).before args s' = true := vx_ot_at hW0 hvm.symm (hgood _ List.mem_cons_self) hk
  have hini' : (Cond.initialized cls).before args s' = true := vx_ot_at hW0 hvm.symm (hgood _ (List.mem_cons_of_mem _ List.mem_cons_self)) hini
  have hU' : vx_Zq Bundle.tN "UNASSIGNED_STACK" Bundle.steD A s' s'.heap := by rw [hhp]; exact vx_Zq.moved hW0.alike (hU.kept hS.2.1)
  have hN' : vx_Zq Bundle.tN "SUPPRESSED_SENTINEL" Bundle.listD A s' s'.heap := by rw [hhp]; exact vx_Zq.moved hW0.alike (hN.kept hS.2.1)
  have h : ∀ w ∈ Bundle.ownAtoms own ic cls names, w.before args s' = true := vx_own hat' (vx_isRefq hU'.1) (vx_isRefq hN'.1) hU'.2.word hN'.2.word
  have hown' : s'.vm.findClass own = some m.cls := by rw [hvm]; exact hown
  have hins : (Cond.instantiable cls 6).before args s' = true := h _ (by simp [Bundle.ownAtoms])
  obtain ⟨vm₁, cX, kX, hfX, hkX, -, -, X₁, st1⟩ := Y.newCold hexec (own := own) (C := cls) (index := ik) (n := 6) hown' hk' hins hini'
    (g := F0 m pc ls rest) rfl (by rw [hb]; exact d0) (Nat.le_refl _) (Nat.le_refl _)
  generalize hT1 : (T.setVm vm₁).pushCell { cls := cX, slots := kX.instanceTypes.map defaultValue, vm := .none } = T1 at X₁ st1
  have hcat : (Value.ref T.heap.size).category = 1 := rfl
  have hcellA : T1.heap[T.heap.size]? = some (freshCell cX kX) := by rw [← hT1]; exact State.heap_pushCell_size _ _
  have d3' : decode c.code (pc + 3) = .ok (.dup, 1) := by rw [hb]; exact d3
  have d4' : decode c.code (pc + 4) = .ok (.ldc is, 2) := by rw [hb]; exact d4
  have hstr' : vk_R own is text sa s' := vk_R.warm hW0 hstr
  obtain ⟨U, hsteps, hrun, hend, hW, hsame, ce, hce, hO⟩ := X₁.ctorThrowS hexec htr (own := own) (cls := cls) (names := names) (ic := ic) hown' hcls hnames h (fun x hx => nomatch hx) hfX hkX hcellA (by rw [hhp, hT]; exact Nat.le_refl _) (msg := .ref sa) rfl
    (g := { method := m, pc := pc + 6, locals := ls, stack := .ref sa :: .ref T.heap.size :: .ref T.heap.size :: rest, locked := none }) rfl hsize rfl rfl (rest := rest) rfl
    (by rw [hb]; exact d6) (by rw [hb]; exact d9) hout hRframes (by simp only [List.map_cons, List.sum_cons, hcat]; omega) hlocks
  obtain ⟨f1, f2⟩ := vx_frame hsame
  rw [hhp] at f1 f2
  have hWs : s.WarmedH U.vm := State.WarmedH.trans hW0 hW
  have hcl : s.vm.findClass cls = some ce.cls := by
    have h9 := hO.cls
    rw [hvm] at h9
    exact h9
  have hall : s.sameButNew ({ U with vm := s.vm } : State) locs mc ms := by
    subst hA
    obtain ⟨e1, e2⟩ := hsame
    rw [State.setFrames_setFrames] at e1
    have h2 : (T.setVm s.vm).sameButNew ({ U with vm := s.vm } : State) [] (0 + 1) (0 + 6) := ⟨e1, e2⟩
    have h3 := X.same.trans h2
    rw [List.append_nil] at h3
    exact h3.mono hc hs
  refine ⟨U, ?_, .threw T.heap.size, hrun, hend, Or.inr ⟨T.heap.size, rfl, cls, ce, locs, hx U hWs.alike f1 (fun q hq => f2 q hq (fun z hz => nomatch hz)), hce, hO.vm, hcl, hWs, hall, hf⟩⟩
  refine st1 _ ?_
  show Steps p.tables e below (T1.setTop { method := m, pc := pc + 3, locals := ls, stack := .ref T.heap.size :: rest, locked := none }) _
  jvm_step X₁.here [X₁.here.top, hexec, d3', Value.category]
  exact X₁.ldcString hexec (own := own) (text := text) (index := is) (a := sa) hown' hstr'.1 hstr'.2
    (g := { method := m, pc := pc + 4, locals := ls, stack := .ref T.heap.size :: .ref T.heap.size :: rest, locked := none }) rfl d4' _ hsteps
/-- 'throw new E("text")', the text by a wide index -/
theorem vx_throwSW {cc : ByteArray} {pc : Nat} (hexec : p.tables.exec = Jvm.exec) (hb : c.code = cc) (hl : l.stackTraces = false) {own cls text : String} {names : List String} {ik is ic mc ms sa : Nat} {A : Nat → Prop}
    (hown : s.vm.findClass own = some m.cls) (hcls : Bundle.fit cls = true) (hnames : ∀ n ∈ names, Bundle.fit n = true)
    (hk : (Cond.classLink own ik cls).before args s = true) (hini : (Cond.initialized cls).before args s = true) (hstr : vk_R own is text sa s) (hat : ∀ w ∈ vx_atS own ic cls names, w.before args s = true)
    (hgood : ∀ w ∈ Cond.classLink own ik cls :: Cond.initialized cls :: vx_atS own ic cls names, vx_ot w = true)
    (hU : vx_Zq Bundle.tN "UNASSIGNED_STACK" Bundle.steD A s s.heap) (hN : vx_Zq Bundle.tN "SUPPRESSED_SENTINEL" Bundle.listD A s s.heap) (hS : va_S A s.heap H locs) (hsize : ls.size = c.maxLocals)
    (d0 : decode cc pc = .ok (.new ik, 3)) (d3 : decode cc (pc + 3) = .ok (.dup, 1)) (d4 : decode cc (pc + 4) = .ok (.ldc_w is, 3)) (d7 : decode cc (pc + 7) = .ok (.invokespecial ic, 3)) (d10 : decode cc (pc + 10) = .ok (.athrow, 1))
    (hout : ∀ x ∈ c.exceptionTable.toList, covers x (pc + 10) = false)
    (hRframes : names.length + 3 < R.frames) (hRlocals : (rest.map fun v => v.category).sum + (13 * (names.length + 1) + 43) ≤ R.locals) (hRcells : cells + 1 ≤ R.cells) (hRslots : slots + 6 ≤ R.slots) (hlocks : meth.locks = false)
    (hx : ∀ t : State, s.vm.Alike t.vm → H.size ≤ t.heap.size → (∀ q : Nat, q < H.size → t.heap[q]? = H[q]?) → XC cls s t)
    (hf : ∀ z ∈ locs, free z.base) (hc : cells + 1 ≤ mc) (hs : slots + 6 ≤ ms) :
    W p l e R s m args below meth c H locs cells slots (vx_MQ below Qc XC args s mc ms free) (F0 m pc ls rest) := by
  intro T hT X
  have htr : e.platform.stackTraces = false := (show e.platform.stackTraces = l.stackTraces by rw [X.admits.platform]).trans hl
  have Y := vx_rebase X (R' := { frames := R.frames, locals := R.locals, cells := 1, slots := 6 }) (Nat.le_refl _) (Nat.le_refl _) hRcells hRslots
  obtain ⟨s', hA⟩ : ∃ z, z = (T.setVm s.vm).setFrames (.invoking m args :: below) := ⟨_, rfl⟩
  rw [← hA] at Y
  have hvm : s'.vm = s.vm := by rw [hA]; rfl
  have hhp : s'.heap = H := by rw [hA]; exact hT
  have hW0 : s.WarmedH s'.vm := by rw [hvm]; exact State.WarmedH.refl s
  have hat' : ∀ w ∈ vx_atS own ic cls names, w.before args s' = true := fun w hw => vx_ot_at hW0 hvm.symm (hgood w (List.mem_cons_of_mem _ (List.mem_cons_of_mem _ hw))) (hat w hw)
  have hk' : (Cond.classLink own ik cls).before args s' = true := vx_ot_at hW0 hvm.symm (hgood _ List.mem_cons_self) hk
  have hini' : (Cond.initialized cls).before args s' = true := vx_ot_at hW0 hvm.symm (hgood _ (List.mem_cons_of_mem _ List.mem_cons_self)) hini
  have hU' : vx_Zq Bundle.tN "UNASSIGNED_STACK" Bundle.steD A s' s'.heap := by rw [hhp]; exact vx_Zq.moved hW0.alike (hU.kept hS.2.1)
  have hN' : vx_Zq Bundle.tN "SUPPRESSED_SENTINEL" Bundle.listD A s' s'.heap := by rw [hhp]; exact vx_Zq.moved hW0.alike (hN.kept hS.2.1)
  have h : ∀ w ∈ Bundle.ownAtoms own ic cls names, w.before args s' = true := vx_own hat' (vx_isRefq hU'.1) (vx_isRefq hN'.1) hU'.2.word hN'.2.word
  have hown' : s'.vm.findClass own = some m.cls := by rw [hvm]; exact hown
  have hins : (Cond.instantiable cls 6).before args s' = true := h _ (by simp [Bundle.ownAtoms])
  obtain ⟨vm₁, cX, kX, hfX, hkX, -, -, X₁, st1⟩ := Y.newCold hexec (own := own) (C := cls) (index := ik) (n := 6) hown' hk' hins hini'
    (g := F0 m pc ls rest) rfl (by rw [hb]; exact d0) (Nat.le_refl _) (Nat.le_refl _)
  generalize hT1 : (T.setVm vm₁).pushCell { cls := cX, slots := kX.instanceTypes.map defaultValue, vm := .none } = T1 at X₁ st1
  have hcat : (Value.ref T.heap.size).category = 1 := rfl
  have hcellA : T1.heap[T.heap.size]? = some (freshCell cX kX) := by rw [← hT1]; exact State.heap_pushCell_size _ _
  have d3' : decode c.code (pc + 3) = .ok (.dup, 1) := by rw [hb]; exact d3
  have d4' : decode c.code (pc + 4) = .ok (.ldc_w is, 3) := by rw [hb]; exact d4
  have hstr' : vk_R own is text sa s' := vk_R.warm hW0 hstr
  obtain ⟨U, hsteps, hrun, hend, hW, hsame, ce, hce, hO⟩ := X₁.ctorThrowS hexec htr (own := own) (cls := cls) (names := names) (ic := ic) hown' hcls hnames h (fun x hx => nomatch hx) hfX hkX hcellA (by rw [hhp, hT]; exact Nat.le_refl _) (msg := .ref sa) rfl
    (g := { method := m, pc := pc + 7, locals := ls, stack := .ref sa :: .ref T.heap.size :: .ref T.heap.size :: rest, locked := none }) rfl hsize rfl rfl (rest := rest) rfl
    (by rw [hb]; exact d7) (by rw [hb]; exact d10) hout hRframes (by simp only [List.map_cons, List.sum_cons, hcat]; omega) hlocks
  obtain ⟨f1, f2⟩ := vx_frame hsame
  rw [hhp] at f1 f2
  have hWs : s.WarmedH U.vm := State.WarmedH.trans hW0 hW
  have hcl : s.vm.findClass cls = some ce.cls := by
    have h9 := hO.cls
    rw [hvm] at h9
    exact h9
  have hall : s.sameButNew ({ U with vm := s.vm } : State) locs mc ms := by
    subst hA
    obtain ⟨e1, e2⟩ := hsame
    rw [State.setFrames_setFrames] at e1
    have h2 : (T.setVm s.vm).sameButNew ({ U with vm := s.vm } : State) [] (0 + 1) (0 + 6) := ⟨e1, e2⟩
    have h3 := X.same.trans h2
    rw [List.append_nil] at h3
    exact h3.mono hc hs
  refine ⟨U, ?_, .threw T.heap.size, hrun, hend, Or.inr ⟨T.heap.size, rfl, cls, ce, locs, hx U hWs.alike f1 (fun q hq => f2 q hq (fun z hz => nomatch hz)), hce, hO.vm, hcl, hWs, hall, hf⟩⟩
  refine st1 _ ?_
  show Steps p.tables e below (T1.setTop { method := m, pc := pc + 3, locals := ls, stack := .ref T.heap.size :: rest, locked := none }) _
  jvm_step X₁.here [X₁.here.top, hexec, d3', Value.category]
  exact X₁.ldcStringW hexec (own := own) (text := text) (index := is) (a := sa) hown' hstr'.1 hstr'.2
    (g := { method := m, pc := pc + 4, locals := ls, stack := .ref T.heap.size :: .ref T.heap.size :: rest, locked := none }) rfl d4' _ hsteps
end Ends
section Bodies
variable {l : Launch}
theorem vx_ofW {y : MethodName} {ws ws' : List Cond} {rm : Room} {Pc : Array Value → State → Prop} {Qc : Array Value → State → Outcome → State → Prop} {XC : String → State → State → Prop} {mc ms : Nat} {free : Addr → Prop} {cc : ByteArray} {maxL : Nat} {ret : Option FieldType}
    (hy : plainName y.cls = true) (hw : ws = Cond.code y cc maxL ret :: ws')
    (body : ∀ p e s m args below meth c s₁, BodyLoose p l y (headSpec ws rm) cc maxL ret e s m args below meth c s₁ → c.maxLocals = maxL → (∀ x ∈ c.exceptionTable.toList, False) → Pc args s →
      W p l e (headSpec ws rm).room s m args below meth c s.heap [] 0 0 (vx_MQ below Qc XC args s mc ms free) (entryFrame m args maxL)) : vx_Met l y ws rm Pc Qc XC mc ms free := by
  refine MetFree.of_bodyS (code := cc) (maxLocals := maxL) (ret := ret) hy ?_ ?_
  · intro args s m h hn
    obtain ⟨meth, c, h1, h2, h3, h4, h5, h6, -, -⟩ := Cond.code_spec hn (atoms_spec (ws := ws) h _ (by rw [hw]; exact List.mem_cons_self))
    exact ⟨meth, c, h1, h2, h3, h4, h5, h6⟩
  · intro p e s m args below meth c s₁ B hml hP _
    have hh0 : s₁.heap = s.heap := by rw [B.state]; rfl
    have ht : ∀ x ∈ c.exceptionTable.toList, False := by
      obtain ⟨meth9, c9, h1, h2, -, -, -, -, h7, -⟩ := Cond.code_spec B.named (atoms_spec (ws := ws) B.pre _ (by rw [hw]; exact List.mem_cons_self))
      cases Option.some.inj (h1.symm.trans B.method)
      cases Option.some.inj (h2.symm.trans (Stand.of_body B).code)
      intro x hx
      rw [Array.isEmpty_iff.mp h7] at hx
      cases hx
    obtain ⟨t, a1, o, b1, b2, b3⟩ := body p e s m args below meth c s₁ B hml ht hP s₁ hh0 (Stand.of_body B)
    exact ⟨t, o, a1, b1, b2, b3⟩
/-- the table of a body with handlers -/
theorem vx_table {p : Program} {x y : MethodName} {S : Spec} {cc bytes : ByteArray} {maxL maxL' : Nat} {ret ret' : Option FieldType} {e : Env} {s s₁ : State} {m : MethodId} {args : Array Value} {below : List Frame} {meth : Method} {c : Code} {hh : List (Nat × Nat × Nat × Nat)}
    (B : BodyLoose p l y S cc maxL ret e s m args below meth c s₁) (h : (Cond.codeWith y bytes maxL' ret' hh).before args s = true) : c.exceptionTable.toList = tableOf hh := by
  obtain ⟨m9, meth9, c9, hn9, h1, h2, -, -, h6, -⟩ := Cond.codeWith_spec h
  cases Option.some.inj (hn9.symm.trans B.named)
  cases Option.some.inj (h1.symm.trans B.method)
  cases Option.some.inj (h2.symm.trans (Stand.of_body B).code)
  rw [← h6, table_eq]
end Bodies
end VXA
/-! ===== END ===== -/
/-! ===== BEGIN a static call of a method with an exception table ===== -/
section VXS
variable {p : Program} {l : Launch} {e : Env} {R : Room} {s : State} {m : MethodId} {args : Array Value} {below : List Frame} {meth : Method} {c : Code} {T : State} {H : Heap} {locs : List Loc} {cells slots : Nat}
abbrev vx_CSW (R : Room) (s : State) (args : Array Value) (own : String) (index : Nat) (y : MethodName) (bytes : ByteArray) (maxL : Nat) (ret : Option FieldType) (hh : List (Nat × Nat × Nat × Nat)) (ws : List Cond) (rm : Room) (mc ms n : Nat) : Prop :=
  (rm.cells = mc ∧ rm.slots = ms ∧ rm.frames + 1 ≤ R.frames ∧ 8 + (maxL + 11) + rm.locals ≤ R.locals ∧ (∀ w ∈ ws, ∀ (a' : Array Value) (U : State), s.WarmedH U.vm → w.before a' U = true) ∧ Cond.codeWith y bytes maxL ret hh ∈ ws) ∧
  (Cond.codeWith y bytes maxL ret hh).before args s = true ∧ (Cond.initialized y.cls).before args s = true ∧ (y.cls ≠ "java/lang/invoke/MethodHandle" ∧ y.cls ≠ "java/lang/invoke/VarHandle") ∧
  (∀ sig, parseMethodDescriptor y.desc = some sig → n = sig.parameters.length) ∧ (Cond.methodLink own index y).before args s = true ∧ (Cond.static y).before args s = true
theorem vx_cwSW {own : String} {index maxL mc ms : Nat} {y : MethodName} {bytes : ByteArray} {ret : Option FieldType} {hh : List (Nat × Nat × Nat × Nat)} {Ts ws ws' : List Cond} {rm : Room} (n : Nat) (ht : ∀ w ∈ Ts, w.before args s = true) (hT : GoodIn Ts (va_wsS own index y ws)) (hw : ws = Cond.codeWith y bytes maxL ret hh :: ws') (hrc : rm.cells = mc) (hrs : rm.slots = ms)
    (hd : y.cls ≠ "java/lang/invoke/MethodHandle" ∧ y.cls ≠ "java/lang/invoke/VarHandle" ∧ (parseMethodDescriptor y.desc).map (fun d => d.parameters.length) = some n) (hR : rm.frames + 1 ≤ R.frames ∧ 8 + (maxL + 11) + rm.locals ≤ R.locals) :
    vx_CSW R s args own index y bytes maxL ret hh ws rm mc ms n := by
  have ok : ∀ w ∈ va_wsS own index y ws, w.before args s = true := fun w h => ht w (hT w h).1
  have hG : GoodIn Ts ws := fun w h => hT w (by unfold va_wsS; exact List.mem_append_right _ h)
  have hc : Cond.codeWith y bytes maxL ret hh ∈ ws := by rw [hw]; exact List.mem_cons_self
  refine ⟨⟨hrc, hrs, hR.1, hR.2, pay_in ht hG, hc⟩, ht _ (hG _ hc).1, ok _ (by simp [va_wsS]), ⟨hd.1, hd.2.1⟩, fun sig h => ?_, ok _ (by simp [va_wsS]), ok _ (by simp [va_wsS])⟩
  have h2 := hd.2.2
  rw [h] at h2
  exact (Option.some.inj h2).symm
theorem vx_callSW (X : Stand p l e R s m args below meth c T locs cells slots) (hexec : p.tables.exec = Jvm.exec) {own : String} {index : Nat} {y : MethodName} {bytes : ByteArray} {maxL : Nat} {ret : Option FieldType} {hh : List (Nat × Nat × Nat × Nat)}
    (hown : s.vm.findClass own = some m.cls) (hlink : (Cond.methodLink own index y).before args s = true) (hstat : (Cond.static y).before args s = true) (hinit : (Cond.initialized y.cls).before args s = true)
    (hcode : (Cond.codeWith y bytes maxL ret hh).before args s = true) (hy : y.cls ≠ "java/lang/invoke/MethodHandle" ∧ y.cls ≠ "java/lang/invoke/VarHandle")
    {W9 : Nat} {Pre : Pt → Array Value → Prop} {Post : Pt → Array Value → Option Value → Pt → Prop} (hK : Back l R p e below s args y 3 W9 Pre Post)
    {g : JFrame} (hg : g.method = m) (hsize : g.locals.size = c.maxLocals) {argsL rest : List Value} (hlen : ∀ sig, parseMethodDescriptor y.desc = some sig → argsL.length = sig.parameters.length)
    (hstack : g.stack = argsL.reverse ++ rest) (hW : 2 * g.monitorRoom + (rest.map fun v => v.category).sum ≤ W9) (hdg : decode c.code g.pc = .ok (.invokestatic index, 3))
    (hpre : ∀ vm₁, s.WarmedH vm₁ → Pre ⟨T.setVm vm₁, locs, cells, slots⟩ argsL.toArray) :
    ∃ (v : Option Value) (vm₁ : Vm) (B : Pt), s.WarmedH vm₁ ∧ Stand p l e R s m args below meth c B.U B.locs B.cells B.slots ∧ Post ⟨T.setVm vm₁, locs, cells, slots⟩ argsL.toArray v B ∧
      ∀ target, Steps p.tables e below (B.U.setTop { g with pc := g.pc + 3, stack := v.toList ++ rest }) target → Steps p.tables e below (T.setTop g) target := by
  obtain ⟨mk, methM, cM, hnamed, hmethM, -, -, -, -, -, -, hsigM⟩ := Cond.codeWith_spec hcode
  have hstatic : methM.isStatic = true := Cond.static_spec hnamed hmethM hstat
  obtain ⟨kP, hkP, -⟩ := className_of_methodNamed hnamed
  have hinitP : kP.init = .initialized := Cond.initialized_spec (findClass_of_methodNamed hnamed) hkP hinit
  obtain ⟨vm₁, X₁, hstep₁⟩ := X.invokestatic hexec hown hlink hnamed hmethM hstatic hkP hinitP hy (g := g) hg (argsL := argsL) (rest := rest) (hlen _ hsigM) hstack hdg
  obtain ⟨v, B, X', hpost, hsteps⟩ := hK m meth c ⟨T.setVm vm₁, locs, cells, slots⟩ { g with stack := rest } (.invokestatic index) mk argsL.toArray X₁ hg hsize hdg hW (X₁.named hnamed) (hpre vm₁ X₁.warmed)
  exact ⟨v, vm₁, B, X₁.warmed, X', hpost, fun target h => hstep₁ _ fun acts => by rw [doInvoke_state]; exact hsteps.trans h⟩
theorem vx_runSW {y : MethodName} {bytes cc : ByteArray} {maxL nL mc ms n index : Nat} {ret : Option FieldType} {hh : List (Nat × Nat × Nat × Nat)} {ws : List Cond} {rm : Room} {Pc : Array Value → State → Prop} {Qc : Array Value → State → Outcome → State → Prop} {free : Addr → Prop} {Ts : List Cond} {own : String} {As rest : List Value} {g : JFrame}
    (S : CallFix p m c cc nL s args Ts own) (hM : Met l y ws rm Pc Qc mc ms free) (cw : vx_CSW R s args own index y bytes maxL ret hh ws rm mc ms n) (hp : PreS s H Pc As)
    (hg : g.method = m) (hn : As.length = n) (hsize : g.locals.size = nL) (hstack : g.stack = As.reverse ++ rest) (hW : 2 * g.monitorRoom + (rest.map fun v => v.category).sum ≤ 8) (hdg : decode cc g.pc = .ok (.invokestatic index, 3)) (hf : cells + mc ≤ R.cells ∧ slots + ms ≤ R.slots) :
    va_Run p l e R s m args below meth c H locs cells slots mc ms g rest (Qc As.toArray) (free) := by
  obtain ⟨⟨hrc, hrs, hfr, hlo, hws, hcw⟩, hcode, hini, hy, hlen, hl, hstt⟩ := cw
  have hK : Back l R p e below s args y 3 8 (PreOf R mc ms Pc) (PostOf Qc mc ms free) := va_backW (hh := hh) (bytes := bytes) (maxL := maxL) (ret := ret) hM hp.1 hrc hrs hfr hlo hws hcw (fun a' U hW => word_at hW (Or.inl (by first | rfl | simp [Cond.onTables, Cond.keeps, Cond.steady])) hini)
  obtain ⟨hx, hb, hml, ho, -⟩ := S
  intro T hT X
  obtain ⟨v, vm₁, ⟨U', l2, c2, s2⟩, hW₁, X', ⟨g', mk, t, L, e1, e2, hq, h1, hL, h2, h3⟩, st⟩ := vx_callSW X hx (hh := hh) (bytes := bytes) (maxL := maxL) (ret := ret) ho hl hstt hini hcode hy hK hg (hsize.trans hml.symm) (argsL := As) (rest := rest) (fun sig h => hn.trans (hlen sig h)) hstack hW (by rw [hb]; exact hdg)
    (fun vm₁ hW₁ => ⟨hf.1, hf.2, hp.2 (T.setVm vm₁) hT hW₁⟩)
  dsimp only [Pt.U, Pt.locs, Pt.cells, Pt.slots] at X' e1 e2 h1 h2 h3 st
  subst h1; subst h2; subst h3
  exact ⟨v, (T.setVm vm₁).calling g' mk As.toArray, t, U', L, hT, X', hL, e1, e2, hq, st⟩
/-- not caught here, past rows that name other classes: it goes on to the caller -/
theorem vx_outP {p : Program} {l : Launch} {e : Env} {R : Room} {s : State} {m : MethodId} {args : Array Value} {below : List Frame} {meth : Method} {c : Code} {H : Heap} {locs : List Loc} {cells slots : Nat} {free : Addr → Prop} {ls : Array Slot} {rest : List Value} {Qc : Array Value → State → Outcome → State → Prop} {XC : String → State → State → Prop}
    {pc : Nat} {own E : String} {ce : Cell} {q : Addr} {mc ms : Nat} (hown : s.vm.findClass own = some m.cls) (hlocks : meth.locks = false)
    (hpass : ∀ z ∈ c.exceptionTable.toList, covers z pc = false ∨ (z.catchType ≠ 0 ∧ ∃ nm : String, (Cond.classLink own z.catchType nm).before args s = true ∧ va_Nc E nm s)) (hcell : H[q]? = some ce) (hv : ce.vm = .none) (hcl : s.vm.findClass E = some ce.cls)
    (hx : ∀ t : State, t.heap = H → s.vm.Alike t.vm → XC E s t) (hf : ∀ z ∈ locs, free z.base) (hc : cells ≤ mc) (hs : slots ≤ ms) :
    vx_W p l e R s m args below meth c H locs cells slots (vx_MQ below Qc XC args s mc ms free) (F0 m pc ls rest) q := by
  intro T hT X
  have hpl : e.platform.magicAccessors = ({} : Platform).magicAccessors := by rw [X.admits.platform]
  obtain ⟨vm', hW', X', st⟩ := X.outThrough hlocks q (g := F0 m pc ls rest) rfl rfl rfl (cell := ce) (by rw [hT]; exact hcell) (by rw [hv]; rfl)
    (by obtain ⟨k9, h9, -⟩ := Vm.findClass_spec hcl; exact ⟨k9, h9⟩) (fun z hz => by
      rcases hpass z hz with h | ⟨hz0, nm, hl1, hn1⟩
      · exact Or.inl h
      · obtain ⟨c6, hc6, hcl6⟩ := Cond.classLink_spec hown hl1 e.platform hpl
        obtain ⟨a8, b8, h1, h2, h3⟩ := hn1
        cases Option.some.inj (h1.symm.trans hcl)
        cases Option.some.inj (h2.symm.trans hc6)
        exact Or.inr ⟨hz0, _, hcl6, h3⟩)
  obtain ⟨g₀, hfr⟩ := X'.frames_eq
  have hcell9 : ((T.setVm vm').setFrames (.throwing q :: below)).heap[q]? = some ce := by
    show T.heap[q]? = some ce
    rw [hT]; exact hcell
  have hend : Ended ((T.setVm vm').setFrames (.throwing q :: below)) below (.threw q) := State.frames_setFrames _ (State.cur_lt_of_frames hfr)
  refine ⟨(T.setVm vm').setFrames (.throwing q :: below), ?_, .threw q, X'.here.running, hend, Or.inr ⟨q, rfl, E, ce, locs, hx _ hT (X'.ends _).1.alike, hcell9, hv, hcl, (X'.ends _).1, (X'.ends _).2.mono hc hs, hf⟩⟩
  rw [X.pushThrowing_eq]
  exact st
/-- a thing of a world lies in the heap -/
theorem vx_lt {D : va_G} {cl : List vw_C} {ws : va_W} {H1 : Heap} (h : va_P D cl ws H1) {k : Nat} {q : Nat × va_E} (hk : ws[k]? = some q) : q.1 < H1.size := (h k q hk).lt
end VXS
/-! ===== END ===== -/
/-! ===== BEGIN methods with a table of their own: called by a name, returning or throwing ===== -/
section VXH
/-! vx_backW, vx_callVX, vx_callSX, vx_callVW, vx_runVW, vx_runVX, vx_runSX, vx_ofWH follow the same proofs as their sisters above (Free/Laws.lean, Shelf42/LK1.lean); vx_outP calls Shelf42/NT130.lean (outThrough). -/
section
variable {l : Launch} {R : Room} {p : Program} {e : Env} {below : List Frame} {s : State} {sargs : Array Value} {y : MethodName} {len W9 : Nat}
theorem vx_backW {ws : List Cond} {rm : Room} {Pc : Array Value → State → Prop} {Qc : Array Value → State → Outcome → State → Prop} {XC : String → State → State → Prop} {mc ms : Nat} {free : Addr → Prop} {bytes : ByteArray} {maxL : Nat} {ret : Option FieldType} {hh : List (Nat × Nat × Nat × Nat)}
    (hM : vx_Met l y ws rm Pc Qc XC mc ms free) (hblind : FrameBlind Pc) (hrc : rm.cells = mc) (hrs : rm.slots = ms)
    (hframes : rm.frames + 1 ≤ R.frames) (hlocals : W9 + (maxL + 11) + rm.locals ≤ R.locals)
    (hws : ∀ w ∈ ws, ∀ a' U, s.WarmedH U.vm → w.before a' U = true) (hcode : Cond.codeWith y bytes maxL ret hh ∈ ws) (hinit : ∀ a' U, s.WarmedH U.vm → (Cond.initialized y.cls).before a' U = true) :
    vx_Back l R p e below s sargs y len W9 (PreOf R mc ms Pc) (PostOf Qc mc ms free) (vx_Post XC mc ms free) := by
  intro m meth c A g ig mk a X hg hsize hdg hW hn hp
  have h1 : (headSpec ws rm).pre.before a A.U = true := atoms_intro fun w hw => hws w hw _ _ X.warmed
  have h2 : (Cond.codeWith y bytes maxL ret hh).before a A.U = true := hws _ hcode _ _ X.warmed
  have h3 : (Cond.initialized y.cls).before a A.U = true := hinit _ _ X.warmed
  have h4 : A.cells + (headSpec ws rm).room.cells ≤ R.cells := by rw [show (headSpec ws rm).room.cells = mc from hrc]; exact hp.1
  have h5 : A.slots + (headSpec ws rm).room.slots ≤ R.slots := by rw [show (headSpec ws rm).room.slots = ms from hrs]; exact hp.2.1
  have hPc : Pc a (A.U.calling g mk a) := hblind _ _ _ _ hp.2.2
  obtain ⟨U, Ls, c0, s0⟩ := A
  dsimp only [Pt.U, Pt.locs, Pt.cells, Pt.slots] at h1 h2 h3 h4 h5 X hn hPc ⊢
  obtain ⟨m9, methY, cY, hn9, hmY, hcY, -, hlY, -⟩ := Cond.codeWith_spec h2
  cases Option.some.inj (hn9.symm.trans hn)
  obtain ⟨kY, hkY, -⟩ := className_of_methodNamed hn
  have hinitY : kY.init = .initialized := Cond.initialized_spec (findClass_of_methodNamed hn) hkY h3
  have h : At U g.method c below := by rw [hg]; exact X.here
  have hlocals9 : W9 + (maxL + 11) + (headSpec ws rm).room.locals ≤ R.locals := hlocals
  have happ : (headSpec ws rm).appliesLoose y e.platform (U.calling g mk a) = true :=
    Spec.appliesLoose_calling (g := g) h hdg hn hkY hinitY
      (X.room_calling (g := g) (R' := (headSpec ws rm).room) hsize hmY hcY hframes (by rw [hlY]; omega) h4 h5) h1
  obtain ⟨mid, hmid⟩ := h.above
  have hfr : (U.setTop g).frames = (.java g :: mid) ++ below := by rw [State.frames_setTop' g h.top, hmid]; rfl
  obtain ⟨o, s₂, hsteps, -, hend, hq⟩ := Steps.callFree hM p X.admits X.cas X.clock (acts := []) hfr happ hPc trivial
  have hq' : vx_Q Qc XC mc ms free a (U.calling g mk a) o s₂ := hq
  rw [State.frames_setTop' g h.top] at hend
  obtain ⟨g₀, hg0⟩ := Option.isSome_iff_exists.mp h.top
  obtain ⟨r, hr⟩ := State.topJava?_eq_some.mp hg0
  have hr' : (({ U with heap := s₂.heap, slotsUsed := s₂.slotsUsed } : State).setVm s₂.vm).frames = .java g₀ :: r := hr
  rcases hq' with ⟨hqc, L, hfe, hL⟩ | ⟨q, rfl, E, ce, L, hx, hce, hcv, hcl, hW₂, hsm, hL⟩
  · obtain ⟨⟨v, rfl⟩, hW₂, e2, q2, q3, q4, q5, q6⟩ := id hfe
    have e3 : s₂ = ({ (U.calling g mk a).setFrames s₂.frames with heap := s₂.heap, slotsUsed := s₂.slotsUsed } : State).setVm s₂.vm := by
      have : s₂ = ({ s₂ with vm := (U.calling g mk a).vm } : State).setVm s₂.vm := rfl
      rw [e2] at this
      exact this
    obtain ⟨c₂, i₂, len₂, hc₂, hd₂, hf₂⟩ := hend
    have hW' : U.WarmedH s₂.vm := hW₂
    have hcc : c₂ = c := by
      have h1 : s₂.code? g.method = U.code? g.method := by
        rw [State.code?_eq, State.code?_eq, hW'.alike.method?]
      exact Option.some.inj (hc₂.symm.trans (h1.trans h.code))
    subst hcc
    have hlen : len₂ = len := by rw [hdg] at hd₂; cases hd₂; rfl
    subst hlen
    have hs₂ : s₂ = (({ U with heap := s₂.heap, slotsUsed := s₂.slotsUsed } : State).setVm s₂.vm).setTop { g with pc := g.pc + len₂, stack := v.toList ++ g.stack } := by
      refine e3.trans ?_
      rw [hf₂, State.calling_eq h.top, State.setFrames_setFrames, State.setTop_of_frames _ hr', hr]
      rfl
    have hsame : U.sameButNew ({ U with heap := s₂.heap, slotsUsed := s₂.slotsUsed } : State) L mc ms := by
      refine ⟨?_, q2, q3, q4, q5, q6⟩
      obtain ⟨t, ht, -⟩ := State.frames_cons hr
      show ({ U with heap := s₂.heap, slotsUsed := s₂.slotsUsed } : State) = { U.setFrames U.frames with heap := s₂.heap, slotsUsed := s₂.slotsUsed }
      rw [State.setFrames_self ht]
    subst hg
    refine Or.inl ⟨v, ⟨(({ U with heap := s₂.heap, slotsUsed := s₂.slotsUsed } : State).setVm s₂.vm), Ls ++ L, c0 + mc, s0 + ms⟩,
      ⟨X.admits, X.cas, X.clock, X.frames, X.room, X.hears, X.method, X.code, (X.here.setHeapUsed s₂.heap s₂.slotsUsed).setVm hW'.alike, X.tail, State.WarmedH.trans X.warmed hW', X.limits, X.bytes, X.same.trans (hsame.setVm s.vm)⟩,
      ⟨g, mk, s₂, L, rfl, rfl, hqc, rfl, hL, rfl, rfl⟩, ?_⟩
    show Steps p.tables e below _ ((({ U with heap := s₂.heap, slotsUsed := s₂.slotsUsed } : State).setVm s₂.vm).setTop { g with pc := g.pc + len₂, stack := v.toList ++ g.stack })
    rw [← hs₂]
    exact hsteps
  · obtain ⟨e2, q2, q3, q4, q5, q6⟩ := id hsm
    have e3 : s₂ = ({ (U.calling g mk a).setFrames s₂.frames with heap := s₂.heap, slotsUsed := s₂.slotsUsed } : State).setVm s₂.vm := by
      have : s₂ = ({ s₂ with vm := (U.calling g mk a).vm } : State).setVm s₂.vm := rfl
      rw [e2] at this
      exact this
    have hf₂ : s₂.frames = .throwing q :: .java g :: U.frames.tail := hend
    have hW' : U.WarmedH s₂.vm := hW₂
    have hs₂ : s₂ = ((({ U with heap := s₂.heap, slotsUsed := s₂.slotsUsed } : State).setVm s₂.vm).setTop g).pushFrame (.throwing q) := by
      refine e3.trans ?_
      rw [hf₂, State.calling_eq h.top, State.setFrames_setFrames, State.pushFrame, State.frames_setTop _ hr', State.setTop_of_frames _ hr', State.setFrames_setFrames, hr]
      rfl
    have hsame : U.sameButNew ({ U with heap := s₂.heap, slotsUsed := s₂.slotsUsed } : State) L mc ms := by
      refine ⟨?_, q2, q3, q4, q5, q6⟩
      obtain ⟨t, ht, -⟩ := State.frames_cons hr
      show ({ U with heap := s₂.heap, slotsUsed := s₂.slotsUsed } : State) = { U.setFrames U.frames with heap := s₂.heap, slotsUsed := s₂.slotsUsed }
      rw [State.setFrames_self ht]
    subst hg
    refine Or.inr ⟨q, ⟨(({ U with heap := s₂.heap, slotsUsed := s₂.slotsUsed } : State).setVm s₂.vm), Ls ++ L, c0 + mc, s0 + ms⟩,
      ⟨X.admits, X.cas, X.clock, X.frames, X.room, X.hears, X.method, X.code, (X.here.setHeapUsed s₂.heap s₂.slotsUsed).setVm hW'.alike, X.tail, State.WarmedH.trans X.warmed hW', X.limits, X.bytes, X.same.trans (hsame.setVm s.vm)⟩,
      ⟨g, mk, s₂, L, E, ce, rfl, rfl, hx, hce, hcv, hcl, rfl, hL, rfl, rfl⟩, ?_⟩
    show Steps p.tables e below _ (((({ U with heap := s₂.heap, slotsUsed := s₂.slotsUsed } : State).setVm s₂.vm).setTop g).pushFrame (.throwing q))
    rw [← hs₂]
    exact hsteps
end
variable {p : Program} {l : Launch} {e : Env} {R : Room} {s : State} {m : MethodId} {args : Array Value} {below : List Frame} {meth : Method} {c : Code} {T : State} {H : Heap} {locs : List Loc} {cells slots : Nat}
theorem vx_callVX (X : Stand p l e R s m args below meth c T locs cells slots) (hexec : p.tables.exec = Jvm.exec) {own C : String} {index : Nat} {y : MethodName} {bytes : ByteArray} {maxL : Nat} {ret : Option FieldType} {hh : List (Nat × Nat × Nat × Nat)}
    (hown : s.vm.findClass own = some m.cls) (hlink : (Cond.methodLink own index y).before args s = true) (hinst : (Cond.instanceMethod y).before args s = true) (hsel : (Cond.selects C y y).before args s = true)
    (hcode : (Cond.codeWith y bytes maxL ret hh).before args s = true) (hy : y.cls ≠ "java/lang/invoke/MethodHandle" ∧ y.cls ≠ "java/lang/invoke/VarHandle")
    {W9 : Nat} {Pre : Pt → Array Value → Prop} {Post : Pt → Array Value → Option Value → Pt → Prop} {PostX : Pt → Array Value → Addr → Pt → Prop} (hK : vx_Back l R p e below s args y 3 W9 Pre Post PostX)
    {b : Addr} {cellB : Cell} (hcell : T.heap[b]? = some cellB) (hobj : cellB.vm.isStatics = false) (hcls : s.vm.findClass C = some cellB.cls)
    {g : JFrame} (hg : g.method = m) (hsize : g.locals.size = c.maxLocals) {argsL rest : List Value} (hlen : ∀ sig, parseMethodDescriptor y.desc = some sig → argsL.length = sig.parameters.length)
    (hstack : g.stack = argsL.reverse ++ .ref b :: rest) (hW : 2 * g.monitorRoom + (rest.map fun v => v.category).sum ≤ W9) (hdg : decode c.code g.pc = .ok (.invokevirtual index, 3))
    (hpre : ∀ vm₁, s.WarmedH vm₁ → Pre ⟨T.setVm vm₁, locs, cells, slots⟩ (Value.ref b :: argsL).toArray) :
    (∃ (v : Option Value) (vm₁ : Vm) (B : Pt), s.WarmedH vm₁ ∧ Stand p l e R s m args below meth c B.U B.locs B.cells B.slots ∧ Post ⟨T.setVm vm₁, locs, cells, slots⟩ (Value.ref b :: argsL).toArray v B ∧
      ∀ target, Steps p.tables e below (B.U.setTop { g with pc := g.pc + 3, stack := v.toList ++ rest }) target → Steps p.tables e below (T.setTop g) target) ∨
    (∃ (q : Addr) (vm₁ : Vm) (B : Pt), s.WarmedH vm₁ ∧ Stand p l e R s m args below meth c B.U B.locs B.cells B.slots ∧ PostX ⟨T.setVm vm₁, locs, cells, slots⟩ (Value.ref b :: argsL).toArray q B ∧
      Steps p.tables e below (T.setTop g) ((B.U.setTop { g with stack := rest }).pushFrame (.throwing q))) := by
  obtain ⟨mk, methM, hnamed, hmethM, hstM, habM⟩ := Cond.instanceMethod_spec hinst
  obtain ⟨m8, methM', cM, hn8, hmethM', -, -, -, -, -, -, hsigM⟩ := Cond.codeWith_spec hcode
  cases Option.some.inj (hn8.symm.trans hnamed)
  cases hmethM.symm.trans hmethM'
  obtain ⟨c2, r2, m2, q1, q2, q3, q4, kP, hkP, hkPi⟩ := Cond.selects_spec hsel
  cases hcls.symm.trans q1
  cases (State.methodFound?_of_named hnamed hy).symm.trans q2
  cases hnamed.symm.trans q3
  have hselP : selectMethod e.platform s.vm cellB.cls mk = .method mk := by rw [Launch.admits_selectMethod X.admits]; exact q4
  obtain ⟨vm₁, X₁, hstep₁⟩ := X.invokevirtual hexec hown hlink hnamed hmethM hstM hkP hkPi hy (a := b) (cell := cellB) hcell
    (fun z h => by rw [h] at hobj; cases hobj) hselP hmethM habM hkP hkPi (g := g) hg (argsL := argsL) (rest := rest) (hlen _ hsigM) hstack hdg
  rcases hK m meth c ⟨T.setVm vm₁, locs, cells, slots⟩ { g with stack := rest } (.invokevirtual index) mk (Value.ref b :: argsL).toArray X₁ hg hsize hdg hW (X₁.named hnamed) (hpre vm₁ X₁.warmed) with ⟨v, B, X', hpost, hsteps⟩ | ⟨q, B, X', hpost, hsteps⟩
  · exact Or.inl ⟨v, vm₁, B, X₁.warmed, X', hpost, fun target h => hstep₁ _ fun acts => by rw [doInvoke_state]; exact hsteps.trans h⟩
  · exact Or.inr ⟨q, vm₁, B, X₁.warmed, X', hpost, hstep₁ _ fun acts => by rw [doInvoke_state]; exact hsteps⟩
theorem vx_callSX (X : Stand p l e R s m args below meth c T locs cells slots) (hexec : p.tables.exec = Jvm.exec) {own : String} {index : Nat} {y : MethodName} {bytes : ByteArray} {maxL : Nat} {ret : Option FieldType} {hh : List (Nat × Nat × Nat × Nat)}
    (hown : s.vm.findClass own = some m.cls) (hlink : (Cond.methodLink own index y).before args s = true) (hstat : (Cond.static y).before args s = true) (hinit : (Cond.initialized y.cls).before args s = true)
    (hcode : (Cond.codeWith y bytes maxL ret hh).before args s = true) (hy : y.cls ≠ "java/lang/invoke/MethodHandle" ∧ y.cls ≠ "java/lang/invoke/VarHandle")
    {W9 : Nat} {Pre : Pt → Array Value → Prop} {Post : Pt → Array Value → Option Value → Pt → Prop} {PostX : Pt → Array Value → Addr → Pt → Prop} (hK : vx_Back l R p e below s args y 3 W9 Pre Post PostX)
    {g : JFrame} (hg : g.method = m) (hsize : g.locals.size = c.maxLocals) {argsL rest : List Value} (hlen : ∀ sig, parseMethodDescriptor y.desc = some sig → argsL.length = sig.parameters.length)
    (hstack : g.stack = argsL.reverse ++ rest) (hW : 2 * g.monitorRoom + (rest.map fun v => v.category).sum ≤ W9) (hdg : decode c.code g.pc = .ok (.invokestatic index, 3))
    (hpre : ∀ vm₁, s.WarmedH vm₁ → Pre ⟨T.setVm vm₁, locs, cells, slots⟩ argsL.toArray) :
    (∃ (v : Option Value) (vm₁ : Vm) (B : Pt), s.WarmedH vm₁ ∧ Stand p l e R s m args below meth c B.U B.locs B.cells B.slots ∧ Post ⟨T.setVm vm₁, locs, cells, slots⟩ argsL.toArray v B ∧
      ∀ target, Steps p.tables e below (B.U.setTop { g with pc := g.pc + 3, stack := v.toList ++ rest }) target → Steps p.tables e below (T.setTop g) target) ∨
    (∃ (q : Addr) (vm₁ : Vm) (B : Pt), s.WarmedH vm₁ ∧ Stand p l e R s m args below meth c B.U B.locs B.cells B.slots ∧ PostX ⟨T.setVm vm₁, locs, cells, slots⟩ argsL.toArray q B ∧
      Steps p.tables e below (T.setTop g) ((B.U.setTop { g with stack := rest }).pushFrame (.throwing q))) := by
  obtain ⟨mk, methM, cM, hnamed, hmethM, -, -, -, -, -, -, hsigM⟩ := Cond.codeWith_spec hcode
  have hstatic : methM.isStatic = true := Cond.static_spec hnamed hmethM hstat
  obtain ⟨kP, hkP, -⟩ := className_of_methodNamed hnamed
  have hinitP : kP.init = .initialized := Cond.initialized_spec (findClass_of_methodNamed hnamed) hkP hinit
  obtain ⟨vm₁, X₁, hstep₁⟩ := X.invokestatic hexec hown hlink hnamed hmethM hstatic hkP hinitP hy (g := g) hg (argsL := argsL) (rest := rest) (hlen _ hsigM) hstack hdg
  rcases hK m meth c ⟨T.setVm vm₁, locs, cells, slots⟩ { g with stack := rest } (.invokestatic index) mk argsL.toArray X₁ hg hsize hdg hW (X₁.named hnamed) (hpre vm₁ X₁.warmed) with ⟨v, B, X', hpost, hsteps⟩ | ⟨q, B, X', hpost, hsteps⟩
  · exact Or.inl ⟨v, vm₁, B, X₁.warmed, X', hpost, fun target h => hstep₁ _ fun acts => by rw [doInvoke_state]; exact hsteps.trans h⟩
  · exact Or.inr ⟨q, vm₁, B, X₁.warmed, X', hpost, hstep₁ _ fun acts => by rw [doInvoke_state]; exact hsteps⟩
theorem vx_callVW (X : Stand p l e R s m args below meth c T locs cells slots) (hexec : p.tables.exec = Jvm.exec) {own C : String} {index : Nat} {y : MethodName} {bytes : ByteArray} {maxL : Nat} {ret : Option FieldType} {hh : List (Nat × Nat × Nat × Nat)}
    (hown : s.vm.findClass own = some m.cls) (hlink : (Cond.methodLink own index y).before args s = true) (hinst : (Cond.instanceMethod y).before args s = true) (hsel : (Cond.selects C y y).before args s = true)
    (hcode : (Cond.codeWith y bytes maxL ret hh).before args s = true) (hy : y.cls ≠ "java/lang/invoke/MethodHandle" ∧ y.cls ≠ "java/lang/invoke/VarHandle")
    {W9 : Nat} {Pre : Pt → Array Value → Prop} {Post : Pt → Array Value → Option Value → Pt → Prop} (hK : Back l R p e below s args y 3 W9 Pre Post)
    {b : Addr} {cellB : Cell} (hcell : T.heap[b]? = some cellB) (hobj : cellB.vm.isStatics = false) (hcls : s.vm.findClass C = some cellB.cls)
    {g : JFrame} (hg : g.method = m) (hsize : g.locals.size = c.maxLocals) {argsL rest : List Value} (hlen : ∀ sig, parseMethodDescriptor y.desc = some sig → argsL.length = sig.parameters.length)
    (hstack : g.stack = argsL.reverse ++ .ref b :: rest) (hW : 2 * g.monitorRoom + (rest.map fun v => v.category).sum ≤ W9) (hdg : decode c.code g.pc = .ok (.invokevirtual index, 3))
    (hpre : ∀ vm₁, s.WarmedH vm₁ → Pre ⟨T.setVm vm₁, locs, cells, slots⟩ (Value.ref b :: argsL).toArray) :
    ∃ (v : Option Value) (vm₁ : Vm) (B : Pt), s.WarmedH vm₁ ∧ Stand p l e R s m args below meth c B.U B.locs B.cells B.slots ∧ Post ⟨T.setVm vm₁, locs, cells, slots⟩ (Value.ref b :: argsL).toArray v B ∧
      ∀ target, Steps p.tables e below (B.U.setTop { g with pc := g.pc + 3, stack := v.toList ++ rest }) target → Steps p.tables e below (T.setTop g) target := by
  obtain ⟨mk, methM, hnamed, hmethM, hstM, habM⟩ := Cond.instanceMethod_spec hinst
  obtain ⟨m8, methM', cM, hn8, hmethM', -, -, -, -, -, -, hsigM⟩ := Cond.codeWith_spec hcode
  cases Option.some.inj (hn8.symm.trans hnamed)
  cases hmethM.symm.trans hmethM'
  obtain ⟨c2, r2, m2, q1, q2, q3, q4, kP, hkP, hkPi⟩ := Cond.selects_spec hsel
  cases hcls.symm.trans q1
  cases (State.methodFound?_of_named hnamed hy).symm.trans q2
  cases hnamed.symm.trans q3
  have hselP : selectMethod e.platform s.vm cellB.cls mk = .method mk := by rw [Launch.admits_selectMethod X.admits]; exact q4
  obtain ⟨vm₁, X₁, hstep₁⟩ := X.invokevirtual hexec hown hlink hnamed hmethM hstM hkP hkPi hy (a := b) (cell := cellB) hcell
    (fun z h => by rw [h] at hobj; cases hobj) hselP hmethM habM hkP hkPi (g := g) hg (argsL := argsL) (rest := rest) (hlen _ hsigM) hstack hdg
  obtain ⟨v, B, X', hpost, hsteps⟩ := hK m meth c ⟨T.setVm vm₁, locs, cells, slots⟩ { g with stack := rest } (.invokevirtual index) mk (Value.ref b :: argsL).toArray X₁ hg hsize hdg hW (X₁.named hnamed) (hpre vm₁ X₁.warmed)
  exact ⟨v, vm₁, B, X₁.warmed, X', hpost, fun target h => hstep₁ _ fun acts => by rw [doInvoke_state]; exact hsteps.trans h⟩
abbrev vx_CVW (R : Room) (s : State) (args : Array Value) (own C : String) (index : Nat) (y : MethodName) (bytes : ByteArray) (maxL : Nat) (ret : Option FieldType) (hh : List (Nat × Nat × Nat × Nat)) (ws : List Cond) (rm : Room) (mc ms n : Nat) : Prop :=
  (rm.cells = mc ∧ rm.slots = ms ∧ rm.frames + 1 ≤ R.frames ∧ 8 + (maxL + 11) + rm.locals ≤ R.locals ∧ (∀ w ∈ ws, ∀ (a' : Array Value) (U : State), s.WarmedH U.vm → w.before a' U = true) ∧ Cond.codeWith y bytes maxL ret hh ∈ ws) ∧
  (Cond.codeWith y bytes maxL ret hh).before args s = true ∧ (Cond.initialized y.cls).before args s = true ∧ (y.cls ≠ "java/lang/invoke/MethodHandle" ∧ y.cls ≠ "java/lang/invoke/VarHandle") ∧
  (∀ sig, parseMethodDescriptor y.desc = some sig → n = sig.parameters.length) ∧ (Cond.methodLink own index y).before args s = true ∧ (Cond.instanceMethod y).before args s = true ∧ (Cond.selects C y y).before args s = true
theorem vx_cwVW {own C : String} {index maxL mc ms : Nat} {y : MethodName} {bytes : ByteArray} {ret : Option FieldType} {hh : List (Nat × Nat × Nat × Nat)} {Ts ws ws' : List Cond} {rm : Room} (n : Nat) (ht : ∀ w ∈ Ts, w.before args s = true) (hT : GoodIn Ts (wsV own index C y ws)) (hw : ws = Cond.codeWith y bytes maxL ret hh :: ws') (hrc : rm.cells = mc) (hrs : rm.slots = ms)
    (hd : y.cls = C ∧ y.cls ≠ "java/lang/invoke/MethodHandle" ∧ y.cls ≠ "java/lang/invoke/VarHandle" ∧ (parseMethodDescriptor y.desc).map (fun d => d.parameters.length) = some n) (hR : rm.frames + 1 ≤ R.frames ∧ 8 + (maxL + 11) + rm.locals ≤ R.locals) :
    vx_CVW R s args own C index y bytes maxL ret hh ws rm mc ms n := by
  obtain ⟨hC, hd⟩ := hd
  subst hC
  have ok : ∀ w ∈ wsV own index y.cls y ws, w.before args s = true := fun w h => ht w (hT w h).1
  have hG : GoodIn Ts ws := fun w h => hT w (by unfold wsV; exact List.mem_append_right _ h)
  have hc : Cond.codeWith y bytes maxL ret hh ∈ ws := by rw [hw]; exact List.mem_cons_self
  refine ⟨⟨hrc, hrs, hR.1, hR.2, pay_in ht hG, hc⟩, ht _ (hG _ hc).1, ok _ (by simp [wsV]), ⟨hd.1, hd.2.1⟩, fun sig h => ?_, ok _ (by simp [wsV]), ok _ (by simp [wsV]), ok _ (by simp [wsV])⟩
  have h2 := hd.2.2
  rw [h] at h2
  exact (Option.some.inj h2).symm
theorem vx_runVW {y : MethodName} {bytes cc : ByteArray} {maxL nL mc ms n index : Nat} {ret : Option FieldType} {hh : List (Nat × Nat × Nat × Nat)} {ws : List Cond} {rm : Room} {Pc : Array Value → State → Prop} {Qc : Array Value → State → Outcome → State → Prop} {free : Addr → Prop} {Ts : List Cond} {own C : String} {b : Addr} {As rest : List Value} {g : JFrame}
    (S : CallFix p m c cc nL s args Ts own) (hM : Met l y ws rm Pc Qc mc ms free) (cw : vx_CVW R s args own C index y bytes maxL ret hh ws rm mc ms n) (hp : PreV s H C b Pc As)
    (hg : g.method = m) (hn : As.length = n) (hsize : g.locals.size = nL) (hstack : g.stack = As.reverse ++ .ref b :: rest) (hW : 2 * g.monitorRoom + (rest.map fun v => v.category).sum ≤ 8) (hdg : decode cc g.pc = .ok (.invokevirtual index, 3)) (hf : cells + mc ≤ R.cells ∧ slots + ms ≤ R.slots) :
    va_Run p l e R s m args below meth c H locs cells slots mc ms g rest (Qc (Value.ref b :: As).toArray) free := by
  obtain ⟨⟨hrc, hrs, hfr, hlo, hws, hcw⟩, hcode, hini, hy, hlen, hl, hin, hse⟩ := cw
  have hK : Back l R p e below s args y 3 8 (PreOf R mc ms Pc) (PostOf Qc mc ms free) := va_backW (hh := hh) (bytes := bytes) (maxL := maxL) (ret := ret) hM hp.1 hrc hrs hfr hlo hws hcw (fun a' U hW => word_at hW (Or.inl (by first | rfl | simp [Cond.onTables, Cond.keeps, Cond.steady])) hini)
  obtain ⟨hx, hb, hml, ho, -⟩ := S
  obtain ⟨-, ⟨cellB, hcB, hoB, hclB⟩, hPc⟩ := hp
  intro T hT X
  obtain ⟨v, vm₁, ⟨U', l2, c2, s2⟩, hW₁, X', ⟨g', mk, t, L, e1, e2, hq, h1, hL, h2, h3⟩, st⟩ := vx_callVW X hx (C := C) (hh := hh) (bytes := bytes) (maxL := maxL) (ret := ret) ho hl hin hse hcode hy hK (by rw [hT]; exact hcB) hoB hclB hg (hsize.trans hml.symm) (argsL := As) (rest := rest) (fun sig h => hn.trans (hlen sig h)) hstack hW (by rw [hb]; exact hdg)
    (fun vm₁ hW₁ => ⟨hf.1, hf.2, hPc (T.setVm vm₁) hT hW₁⟩)
  dsimp only [Pt.U, Pt.locs, Pt.cells, Pt.slots] at X' e1 e2 h1 h2 h3 st
  subst h1; subst h2; subst h3
  exact ⟨v, (T.setVm vm₁).calling g' mk (Value.ref b :: As).toArray, t, U', L, hT, X', hL, e1, e2, hq, st⟩
section
variable {y : MethodName} {bytes cc : ByteArray} {maxL nL mc ms n index : Nat} {ret : Option FieldType} {ws : List Cond} {rm : Room} {Pc : Array Value → State → Prop} {Qc : Array Value → State → Outcome → State → Prop} {XC : String → State → State → Prop} {free : Addr → Prop} {Ts : List Cond} {own C : String} {b : Addr} {As rest : List Value} {g : JFrame}
theorem vx_runVX {hh : List (Nat × Nat × Nat × Nat)} (S : CallFix p m c cc nL s args Ts own) (hM : vx_Met l y ws rm Pc Qc XC mc ms free) (cw : vx_CVW R s args own C index y bytes maxL ret hh ws rm mc ms n) (hp : PreV s H C b Pc As)
    (hg : g.method = m) (hn : As.length = n) (hsize : g.locals.size = nL) (hstack : g.stack = As.reverse ++ .ref b :: rest) (hW : 2 * g.monitorRoom + (rest.map fun v => v.category).sum ≤ 8) (hdg : decode cc g.pc = .ok (.invokevirtual index, 3)) (hf : cells + mc ≤ R.cells ∧ slots + ms ≤ R.slots) :
    vx_Run p l e R s m args below meth c H locs cells slots mc ms g rest (Qc (Value.ref b :: As).toArray) XC free := by
  obtain ⟨⟨hrc, hrs, hfr, hlo, hws, hcw⟩, hcode, hini, hy, hlen, hl, hin, hse⟩ := cw
  have hK : vx_Back l R p e below s args y 3 8 (PreOf R mc ms Pc) (PostOf Qc mc ms free) (vx_Post XC mc ms free) := vx_backW (hh := hh) (bytes := bytes) (maxL := maxL) (ret := ret) hM hp.1 hrc hrs hfr hlo hws hcw (fun a' U hW => word_at hW (Or.inl (by first | rfl | simp [Cond.onTables, Cond.keeps, Cond.steady])) hini)
  obtain ⟨hx, hb, hml, ho, -⟩ := S
  obtain ⟨-, ⟨cellB, hcB, hoB, hclB⟩, hPc⟩ := hp
  intro T hT X
  rcases vx_callVX X hx (C := C) (hh := hh) (bytes := bytes) (maxL := maxL) (ret := ret) ho hl hin hse hcode hy hK (by rw [hT]; exact hcB) hoB hclB hg (hsize.trans hml.symm) (argsL := As) (rest := rest) (fun sig h => hn.trans (hlen sig h)) hstack hW (by rw [hb]; exact hdg)
    (fun vm₁ hW₁ => ⟨hf.1, hf.2, hPc (T.setVm vm₁) hT hW₁⟩) with ⟨v, vm₁, ⟨U', l2, c2, s2⟩, hW₁, X', ⟨g', mk, t, L, e1, e2, hq, h1, hL, h2, h3⟩, st⟩ | ⟨q, vm₁, ⟨U', l2, c2, s2⟩, hW₁, X', ⟨g', mk, t, L, E, ce, e1, e2, hq, hce, hcv, hcl, h1, hL, h2, h3⟩, st⟩
  · dsimp only [Pt.U, Pt.locs, Pt.cells, Pt.slots] at X' e1 e2 h1 h2 h3 st
    subst h1; subst h2; subst h3
    exact Or.inl ⟨v, (T.setVm vm₁).calling g' mk (Value.ref b :: As).toArray, t, U', L, hT, X', hL, e1, e2, hq, st⟩
  · dsimp only [Pt.U, Pt.locs, Pt.cells, Pt.slots] at X' e1 e2 h1 h2 h3 st hcl
    subst h1; subst h2; subst h3
    exact Or.inr ⟨q, (T.setVm vm₁).calling g' mk (Value.ref b :: As).toArray, t, U', L, E, ce, hT, X', hL, e1, e2, hq, hce, hcv, vx_cls hW₁ hcl, st⟩
theorem vx_runSX {hh : List (Nat × Nat × Nat × Nat)} (S : CallFix p m c cc nL s args Ts own) (hM : vx_Met l y ws rm Pc Qc XC mc ms free) (cw : vx_CSW R s args own index y bytes maxL ret hh ws rm mc ms n) (hp : PreS s H Pc As)
    (hg : g.method = m) (hn : As.length = n) (hsize : g.locals.size = nL) (hstack : g.stack = As.reverse ++ rest) (hW : 2 * g.monitorRoom + (rest.map fun v => v.category).sum ≤ 8) (hdg : decode cc g.pc = .ok (.invokestatic index, 3)) (hf : cells + mc ≤ R.cells ∧ slots + ms ≤ R.slots) :
    vx_Run p l e R s m args below meth c H locs cells slots mc ms g rest (Qc As.toArray) XC free := by
  obtain ⟨⟨hrc, hrs, hfr, hlo, hws, hcw⟩, hcode, hini, hy, hlen, hl, hstt⟩ := cw
  have hK : vx_Back l R p e below s args y 3 8 (PreOf R mc ms Pc) (PostOf Qc mc ms free) (vx_Post XC mc ms free) := vx_backW (hh := hh) (bytes := bytes) (maxL := maxL) (ret := ret) hM hp.1 hrc hrs hfr hlo hws hcw (fun a' U hW => word_at hW (Or.inl (by first | rfl | simp [Cond.onTables, Cond.keeps, Cond.steady])) hini)
  obtain ⟨hx, hb, hml, ho, -⟩ := S
  intro T hT X
  rcases vx_callSX X hx (hh := hh) (bytes := bytes) (maxL := maxL) (ret := ret) ho hl hstt hini hcode hy hK hg (hsize.trans hml.symm) (argsL := As) (rest := rest) (fun sig h => hn.trans (hlen sig h)) hstack hW (by rw [hb]; exact hdg)
    (fun vm₁ hW₁ => ⟨hf.1, hf.2, hp.2 (T.setVm vm₁) hT hW₁⟩) with ⟨v, vm₁, ⟨U', l2, c2, s2⟩, hW₁, X', ⟨g', mk, t, L, e1, e2, hq, h1, hL, h2, h3⟩, st⟩ | ⟨q, vm₁, ⟨U', l2, c2, s2⟩, hW₁, X', ⟨g', mk, t, L, E, ce, e1, e2, hq, hce, hcv, hcl, h1, hL, h2, h3⟩, st⟩
  · dsimp only [Pt.U, Pt.locs, Pt.cells, Pt.slots] at X' e1 e2 h1 h2 h3 st
    subst h1; subst h2; subst h3
    exact Or.inl ⟨v, (T.setVm vm₁).calling g' mk As.toArray, t, U', L, hT, X', hL, e1, e2, hq, st⟩
  · dsimp only [Pt.U, Pt.locs, Pt.cells, Pt.slots] at X' e1 e2 h1 h2 h3 st hcl
    subst h1; subst h2; subst h3
    exact Or.inr ⟨q, (T.setVm vm₁).calling g' mk As.toArray, t, U', L, E, ce, hT, X', hL, e1, e2, hq, hce, hcv, vx_cls hW₁ hcl, st⟩
end
end VXH
theorem vx_ofWH {l : Launch} {y : MethodName} {ws ws' : List Cond} {rm : Room} {Pc : Array Value → State → Prop} {Qc : Array Value → State → Outcome → State → Prop} {XC : String → State → State → Prop} {mc ms : Nat} {free : Addr → Prop} {cc : ByteArray} {maxL : Nat} {ret : Option FieldType} {hh : List (Nat × Nat × Nat × Nat)}
    (hy : plainName y.cls = true) (hw : ws = Cond.codeWith y cc maxL ret hh :: ws')
    (body : ∀ p e s m args below meth c s₁, BodyLoose p l y (headSpec ws rm) cc maxL ret e s m args below meth c s₁ → c.maxLocals = maxL → Pc args s →
      W p l e (headSpec ws rm).room s m args below meth c s.heap [] 0 0 (vx_MQ below Qc XC args s mc ms free) (entryFrame m args maxL)) : vx_Met l y ws rm Pc Qc XC mc ms free := by
  refine MetFree.of_bodyS (code := cc) (maxLocals := maxL) (ret := ret) hy ?_ ?_
  · intro args s m h hn
    obtain ⟨m9, meth, c, hn9, h1, h2, h3, h4, -, h5, h6, -⟩ := Cond.codeWith_spec (atoms_spec (ws := ws) h _ (by rw [hw]; exact List.mem_cons_self))
    cases hn.symm.trans hn9
    exact ⟨meth, c, h1, h2, h3, h4, h5, h6⟩
  · intro p e s m args below meth c s₁ B hml hP _
    have hh0 : s₁.heap = s.heap := by rw [B.state]; rfl
    obtain ⟨t, a1, o, b1, b2, b3⟩ := body p e s m args below meth c s₁ B hml hP s₁ hh0 (Stand.of_body B)
    exact ⟨t, o, a1, b1, b2, b3⟩
/-! ===== END ===== -/

end

/-! 61.vxx -/
section
def vx_atX (own : String) (ic : Nat) (X : String) (ix : Nat) (rx : ByteArray) (names : List String) : List Cond := (Bundle.ownAtomsX own ic X ix rx names).filter vx_no
set_option maxHeartbeats 1000000 in
/-- as the library's ctorThrowS (BundleOwnThrow), for a class whose constructor calls its super by an entry ix other than 7 -/
theorem p_ctorX {p : Program} {l : Launch} {e : Env} {R : Room} {s : State} {m₀ : MethodId} {args : Array Value} {below : List Frame} {meth : Method} {c : Code} {W : State} {locs : List Loc} {cells slots : Nat} (X : Stand p l e R s m₀ args below meth c W locs cells slots) (hexec : p.tables.exec = Jvm.exec) (htr : e.platform.stackTraces = false) {own cls : String} {names : List String} {ic ix : Nat} {rx : ByteArray} (x0 : decode rx 0 = .ok (.aload_n 0, 1)) (x1 : decode rx 1 = .ok (.aload_n 1, 1)) (x2 : decode rx 2 = .ok (.invokespecial ix, 3)) (x5 : decode rx 5 = .ok (.return_, 1))
    (hown : s.vm.findClass own = some m₀.cls) (hcls : Bundle.fit cls = true) (hnames : ∀ n ∈ names, Bundle.fit n = true)
    (h : ∀ a ∈ Bundle.ownAtomsX own ic cls ix rx names, a.before args s = true)
    (hlocs : ∀ x ∈ locs, ∀ cell, s.heap[x.base]? = some cell → cell.vm.isStatics = false)
    {a : Addr} {cX : ClassId} {kX : Class} (hfoundX : s.vm.findClass cls = some cX) (hkX : s.vm.classes[cX]? = some kX) (hcell : W.heap[a]? = some (freshCell cX kX)) (hnew : s.heap.size ≤ a)
    {msg : Value} (hmsg : msg.isRef = true)
    {g : JFrame} (hg : g.method = m₀) (hsize : g.locals.size = c.maxLocals) (hlocked : g.locked = none) (hentered : g.entered = []) {rest : List Value} (hstack : g.stack = msg :: .ref a :: .ref a :: rest)
    (hd6 : decode c.code g.pc = .ok (.invokespecial ic, 3)) (hd9 : decode c.code (g.pc + 3) = .ok (.athrow, 1)) (hout : ∀ x ∈ c.exceptionTable.toList, covers x (g.pc + 3) = false)
    (hRframes : names.length + 3 < R.frames) (hRlocals : 2 * g.monitorRoom + ((Value.ref a :: rest).map fun v => v.category).sum + (13 * (names.length + 1) + 42) ≤ R.locals) (hlocks : meth.locks = false := by first | assumption | exact BodyLoose.notSynchronized (by assumption) | exact Body.notSynchronized (by assumption)) :
    ∃ U : State, Steps p.tables e below (W.setTop g) U ∧ U.status = .running ∧ Ended U below (.threw a) ∧ s.WarmedH U.vm ∧ s.sameButNew ({ U with vm := s.vm } : State) locs cells slots ∧
      ∃ ce, U.heap[a]? = some ce ∧ s.vm.findClass cls = some ce.cls ∧ ce.vm = .none := by
  have howns : e.platform.frameOwnsMonitors = true := by rw [X.admits.platform]
  have hfin : e.platform.finalization = false := by rw [X.admits.platform]
  have hpl : e.platform.magicAccessors = ({} : Platform).magicAccessors := by rw [X.admits.platform]
  have a' : ∀ x, x ∈ Bundle.ownAtomsX own ic cls ix rx names → x.holds args s none s [] = true := fun x hx => h x hx
  obtain ⟨T, Z0, L, -, Y⟩ := ThrowableC.of_atoms (args := args) howns hfin hpl (fun x hx => h x (by simp [Bundle.ownAtomsX, hx]))
  obtain ⟨Z, M, LZ, LM, hnZ⟩ := Init0T.ofS_atoms (args := args) hpl L Y (fun x hx => h x (by simp [Bundle.ownAtomsX, hx]))
  obtain ⟨P1, Ps, hlen, L1, hL, hP1m, hlink1, hlink⟩ := Bundle.chainSX (args := args) hpl hnZ x0 x1 x2 x5 names cls hcls hnames (fun x hx => h x (by simp [Bundle.ownAtomsX, hx]))
  have hfound : s.vm.findClass cls = some P1.m.cls := findClass_of_methodNamed hP1m
  cases Option.some.inj (hfoundX.symm.trans hfound)
  obtain ⟨c1, kX', hc1, hk, hord, -, -, hn6⟩ := Cond.instantiable_spec (a' (.instantiable cls 6) (by simp [Bundle.ownAtomsX]))
  cases Option.some.inj (hc1.symm.trans hfound)
  cases Option.some.inj (hkX.symm.trans hk)
  have hsel0 : selectMethod e.platform s.vm P1.m.cls T.fill0 = .method T.fill0 := by
    obtain ⟨c2, r2, m2, q1, q2, q3, q4, -⟩ := Cond.selects_spec (a' (.selects cls Bundle.tFill0 Bundle.tFill0) (by simp [Bundle.ownAtomsX]))
    cases Option.some.inj (q1.symm.trans hfound)
    cases Option.some.inj (q2.symm.trans (State.methodFound?_of_named Y.fill0 (by decide)))
    cases Option.some.inj (q3.symm.trans Y.fill0)
    rw [Launch.admits_selectMethod X.admits]; exact q4
  have hselF : selectMethod e.platform s.vm P1.m.cls T.fill = .method T.fill := by
    obtain ⟨c2, r2, m2, q1, q2, q3, q4, -⟩ := Cond.selects_spec (a' (.selects cls Bundle.tFill Bundle.tFill) (by simp [Bundle.ownAtomsX]))
    cases Option.some.inj (q1.symm.trans hfound)
    cases Option.some.inj (q2.symm.trans (State.methodFound?_of_named Y.fill (by decide)))
    cases Option.some.inj (q3.symm.trans Y.fill)
    rw [Launch.admits_selectMethod X.admits]; exact q4
  obtain ⟨cellS0, hcS0, hiss⟩ := Y.statics
  obtain ⟨u0, hu0⟩ := Cond.staticRefV Y.unassigned L.unassignedStatic L.statics hcS0 hiss (a' (.isRef (.static Bundle.tN "UNASSIGNED_STACK" Bundle.steD)) (by simp [Bundle.ownAtomsX]))
  obtain ⟨sen, hsen⟩ := Cond.staticRefV Y.sentinel L.sentinelStatic L.statics hcS0 hiss (a' (.isRef (.static Bundle.tN "SUPPRESSED_SENTINEL" Bundle.listD)) (by simp [Bundle.ownAtomsX]))
  obtain ⟨ci198, i198, fB, hk198, hg198, ha198, hsB, -, hnB, htB, hffB⟩ := Cond.ownField (t := .object "java/lang/Object") Y.found L.cls (by decide +kernel) (a' (.fieldLink Bundle.tN 198 Bundle.tN "backtrace" "Ljava/lang/Object;") (by simp [Bundle.ownAtomsX])) (a' (.lays Bundle.tN Bundle.tN "backtrace" "Ljava/lang/Object;") (by simp [Bundle.ownAtomsX])) e.platform hpl
  obtain ⟨cellS, hcS', heS, -, hkeep⟩ := X.same.2.2.2.2.2 T.aS cellS0 hcS0
  have hcellS : W.heap[T.aS]? = some cellS := hcS'
  have hout' : ∀ i, (⟨T.aS, i⟩ : Loc) ∉ locs := fun i hmem => by
    have := hlocs _ hmem cellS0 hcS0
    rw [hiss] at this; cases this
  have hknownS : cellS.vm ≠ .unknown := by
    rw [heS]; intro hu
    rw [show cellS0.vm = .unknown from hu] at hiss
    cases hiss
  have hneS : T.aS ≠ a := Nat.ne_of_lt (Nat.lt_of_lt_of_le (Array.getElem?_eq_some_iff.mp hcS0).1 hnew)
  obtain ⟨iM, hffM⟩ := Y.msg
  obtain ⟨tyC, dC, hdC, hdnC⟩ := Cond.laysAt hfound hk Y.cause (a' (.lays cls Bundle.tN "cause" "Ljava/lang/Throwable;") (by simp [Bundle.ownAtomsX]))
  obtain ⟨tyS, dS, hdS, hdnS⟩ := Cond.laysAt hfound hk Y.stack (a' (.lays cls Bundle.tN "stackTrace" Bundle.steD) (by simp [Bundle.ownAtomsX]))
  obtain ⟨tyP, dP, hdP, hdnP⟩ := Cond.laysAt hfound hk Y.supp (a' (.lays cls Bundle.tN "suppressedExceptions" Bundle.listD) (by simp [Bundle.ownAtomsX]))
  obtain ⟨tyM, dM, hdM, hdnM⟩ := Cond.laysAt hfound hk hffM (a' (.lays cls Bundle.tN "detailMessage" "Ljava/lang/String;") (by simp [Bundle.ownAtomsX]))
  obtain ⟨tyB, dB, hdB, hdnB⟩ := Cond.laysAt hfound hk hffB (a' (.lays cls Bundle.tN "backtrace" "Ljava/lang/Object;") (by simp [Bundle.ownAtomsX]))
  have bC := Cond.laysApart hdB hdC hdnB hdnC (by rw [hnB, Y.causeName]; decide)
  have bS := Cond.laysApart hdB hdS hdnB hdnS (by rw [hnB, Y.stackName]; decide)
  have bP := Cond.laysApart hdB hdP hdnB hdnP (by rw [hnB, Y.suppName]; decide)
  have hskip : SkipFacts T e.platform s (fun u => u) u0 ((preparedCellV T.toThrowableT (freshCell P1.m.cls kX) a u0 sen).withEntry W.cur) :=
    ⟨{ ci198 := ci198, i198 := i198, fBack := fB }, ⟨hk198, hg198, ha198, hsB⟩, by
      have := fresh_default (c := P1.m.cls) tyB
      rw [htB] at this
      simpa [preparedCellV, Cell.setSlot, Cell.withEntry, Array.getElem?_setIfInBounds, bC, bS, bP, bC.symm, bS.symm, bP.symm, defaultValue] using this, fun _ _ => rfl⟩
  obtain ⟨tm, methC, cdC, kC, vm₁, hnC, -, -, -, -, -, -, -, hW₁, st1⟩ := Steps.initColdS (tb := p.tables) (e := e) (below := below) (s := s) (U := W) X.here hexec X.warmed hpl hown (t := Bundle.initS cls) rfl rfl (Bundle.fit_spec hcls).2
    (a' (.methodLink own ic (Bundle.initS cls)) (by simp [Bundle.ownAtomsX])) (h (.instanceMethod (Bundle.initS cls)) (by cases names <;> simp [Bundle.ownAtomsX, Bundle.chainSAtomsX, Bundle.passSAtoms])) (bytes := rx) (maxL := 2) (h (.code (Bundle.initS cls) rx 2 none) (by cases names <;> simp [Bundle.ownAtomsX, Bundle.chainSAtomsX, Bundle.passSAtoms]))
    (f := g) hg (a := a) (msg := msg) (rest := .ref a :: rest) hstack hd6
  cases Option.some.inj (hnC.symm.trans hP1m)
  have X₁ := X.noted hW₁
  obtain ⟨vm₂, X₂, st2⟩ := X₁.ctorMessageOffV hexec (g := { g with stack := .ref a :: rest }) hg hsize T L Z LZ M LM (P1 :: Ps)
    (fun P hP => by rcases List.mem_cons.mp hP with rfl | hP; exact L1; exact hL P hP) ⟨hlink1, hlink⟩ (u0 := u0) (sen := sen) (self := a) hmsg (cell := freshCell P1.m.cls kX) (cellS := cellS)
    hcell (fun _ => by simp) (by simp) rfl rfl hsel0 hselF hcellS hneS hknownS (by rw [hkeep _ (hout' _)]; exact hu0) (by rw [hkeep _ (hout' _)]; exact hsen)
    (Takes.of_laid hk hord tyC (by rw [Y.causeType]; rfl)) (Takes.of_laid hk hord tyS (by rw [Y.stackType]; exact fits_refV_array _ u0)) (Takes.of_laid hk hord tyP (by rw [Y.suppType]; exact fits_refV_object _ sen))
    (Takes.of_laid hk hord tyM (by rw [Y.msgType]; exact fits_refV_object _ ⟨msg, hmsg⟩)) Y.objLocals hskip htr [] hd6
    (by simp only [List.length_cons, hlen]; omega) (by simp only [List.length_cons, hlen]; exact hRlocals)
  obtain ⟨hwalk, hrun, hended, hWU, hsame⟩ := X₂.athrowLeaves hexec (g := { g with stack := .ref a :: rest, pc := g.pc + 3 }) hg hlocked hentered hout (a := a) (rest := rest) rfl hd9
  have hlt : a < ((W.setVm vm₁).setVm vm₂).heap.size := (Array.getElem?_eq_some_iff.mp hcell).1
  have hU := heapAt_setCell_self (s := (W.setVm vm₁).setVm vm₂) (plainBareV T.toThrowableT (freshCell P1.m.cls kX) a u0 sen msg) hlt
  refine ⟨_, st1 _ (fun acts => ?_), hrun, hended, hWU, hsame.weaken (fun y hy hlt' => ?_) (Nat.le_refl _) (Nat.le_refl _), _, hU, ?_⟩
  · rw [doInvoke_state]
    exact st2 _ hwalk
  · rcases List.mem_append.mp hy with h1 | h1
    · exact h1
    · exfalso
      have hb : y.base = a := by
        simp only [List.mem_cons, List.not_mem_nil, or_false] at h1
        rcases h1 with rfl | rfl | rfl | rfl | rfl <;> rfl
      rw [hb] at hlt'
      exact Nat.not_lt.mpr hnew hlt'
  · exact ⟨hfound, rfl⟩

set_option maxHeartbeats 1000000 in
/-- 'throw new E("text")': new; dup; ldc; invokespecial; athrow -/
theorem p_throwX {p : Program} {l : Launch} {e : Env} {R : Room} {s : State} {m : MethodId} {args : Array Value} {below : List Frame} {meth : Method} {c : Code} {H : Heap} {locs : List Loc} {cells slots : Nat} {free : Addr → Prop} {ls : Array Slot} {rest : List Value} {Qc : Array Value → State → Outcome → State → Prop} {XC : String → State → State → Prop} {cc : ByteArray} {pc : Nat} (hexec : p.tables.exec = Jvm.exec) (hb : c.code = cc) (hl : l.stackTraces = false) {own cls text : String} {names : List String} {ik is ic mc ms sa ix : Nat} {rx : ByteArray} (x0 : decode rx 0 = .ok (.aload_n 0, 1)) (x1 : decode rx 1 = .ok (.aload_n 1, 1)) (x2 : decode rx 2 = .ok (.invokespecial ix, 3)) (x5 : decode rx 5 = .ok (.return_, 1)) {A : Nat → Prop}
    (hown : s.vm.findClass own = some m.cls) (hcls : Bundle.fit cls = true) (hnames : ∀ n ∈ names, Bundle.fit n = true)
    (hk : (Cond.classLink own ik cls).before args s = true) (hini : (Cond.initialized cls).before args s = true) (hstr : vk_R own is text sa s) (hat : ∀ w ∈ vx_atX own ic cls ix rx names, w.before args s = true)
    (hgood : ∀ w ∈ Cond.classLink own ik cls :: Cond.initialized cls :: vx_atX own ic cls ix rx names, vx_ot w = true)
    (hU : vx_Zq Bundle.tN "UNASSIGNED_STACK" Bundle.steD A s s.heap) (hN : vx_Zq Bundle.tN "SUPPRESSED_SENTINEL" Bundle.listD A s s.heap) (hS : va_S A s.heap H locs) (hsize : ls.size = c.maxLocals)
    (d0 : decode cc pc = .ok (.new ik, 3)) (d3 : decode cc (pc + 3) = .ok (.dup, 1)) (d4 : decode cc (pc + 4) = .ok (.ldc is, 2)) (d6 : decode cc (pc + 6) = .ok (.invokespecial ic, 3)) (d9 : decode cc (pc + 9) = .ok (.athrow, 1))
    (hout : ∀ x ∈ c.exceptionTable.toList, covers x (pc + 9) = false)
    (hRframes : names.length + 3 < R.frames) (hRlocals : (rest.map fun v => v.category).sum + (13 * (names.length + 1) + 43) ≤ R.locals) (hRcells : cells + 1 ≤ R.cells) (hRslots : slots + 6 ≤ R.slots) (hlocks : meth.locks = false)
    (hx : ∀ t : State, s.vm.Alike t.vm → H.size ≤ t.heap.size → (∀ q : Nat, q < H.size → t.heap[q]? = H[q]?) → XC cls s t)
    (hf : ∀ z ∈ locs, free z.base) (hc : cells + 1 ≤ mc) (hs : slots + 6 ≤ ms) :
    W p l e R s m args below meth c H locs cells slots (vx_MQ below Qc XC args s mc ms free) (F0 m pc ls rest) := by
  intro T hT X
  have htr : e.platform.stackTraces = false := (show e.platform.stackTraces = l.stackTraces by rw [X.admits.platform]).trans hl
  have Y := vx_rebase X (R' := { frames := R.frames, locals := R.locals, cells := 1, slots := 6 }) (Nat.le_refl _) (Nat.le_refl _) hRcells hRslots
  obtain ⟨s', hA⟩ : ∃ z, z = (T.setVm s.vm).setFrames (.invoking m args :: below) := ⟨_, rfl⟩
  rw [← hA] at Y
  have hvm : s'.vm = s.vm := by rw [hA]; rfl
  have hhp : s'.heap = H := by rw [hA]; exact hT
  have hW0 : s.WarmedH s'.vm := by rw [hvm]; exact State.WarmedH.refl s
  have hat' : ∀ w ∈ vx_atX own ic cls ix rx names, w.before args s' = true := fun w hw => vx_ot_at hW0 hvm.symm (hgood w (List.mem_cons_of_mem _ (List.mem_cons_of_mem _ hw))) (hat w hw)
  have hk' : (Cond.classLink own ik cls).before args s' = true := vx_ot_at hW0 hvm.symm (hgood _ List.mem_cons_self) hk
  have hini' : (Cond.initialized cls).before args s' = true := vx_ot_at hW0 hvm.symm (hgood _ (List.mem_cons_of_mem _ List.mem_cons_self)) hini
  have hU' : vx_Zq Bundle.tN "UNASSIGNED_STACK" Bundle.steD A s' s'.heap := by rw [hhp]; exact vx_Zq.moved hW0.alike (hU.kept hS.2.1)
  have hN' : vx_Zq Bundle.tN "SUPPRESSED_SENTINEL" Bundle.listD A s' s'.heap := by rw [hhp]; exact vx_Zq.moved hW0.alike (hN.kept hS.2.1)
  have h : ∀ w ∈ Bundle.ownAtomsX own ic cls ix rx names, w.before args s' = true := vx_own hat' (vx_isRefq hU'.1) (vx_isRefq hN'.1) hU'.2.word hN'.2.word
  have hown' : s'.vm.findClass own = some m.cls := by rw [hvm]; exact hown
  have hins : (Cond.instantiable cls 6).before args s' = true := h _ (by simp [Bundle.ownAtomsX])
  obtain ⟨vm₁, cX, kX, hfX, hkX, -, -, X₁, st1⟩ := Y.newCold hexec (own := own) (C := cls) (index := ik) (n := 6) hown' hk' hins hini'
    (g := F0 m pc ls rest) rfl (by rw [hb]; exact d0) (Nat.le_refl _) (Nat.le_refl _)
  generalize hT1 : (T.setVm vm₁).pushCell { cls := cX, slots := kX.instanceTypes.map defaultValue, vm := .none } = T1 at X₁ st1
  have hcat : (Value.ref T.heap.size).category = 1 := rfl
  have hcellA : T1.heap[T.heap.size]? = some (freshCell cX kX) := by rw [← hT1]; exact State.heap_pushCell_size _ _
  have d3' : decode c.code (pc + 3) = .ok (.dup, 1) := by rw [hb]; exact d3
  have d4' : decode c.code (pc + 4) = .ok (.ldc is, 2) := by rw [hb]; exact d4
  have hstr' : vk_R own is text sa s' := vk_R.warm hW0 hstr
  obtain ⟨U, hsteps, hrun, hend, hW, hsame, ce, hce, hO⟩ := p_ctorX X₁ hexec htr x0 x1 x2 x5 (own := own) (cls := cls) (names := names) (ic := ic) hown' hcls hnames h (fun x hx => nomatch hx) hfX hkX hcellA (by rw [hhp, hT]; exact Nat.le_refl _) (msg := .ref sa) rfl
    (g := { method := m, pc := pc + 6, locals := ls, stack := .ref sa :: .ref T.heap.size :: .ref T.heap.size :: rest, locked := none }) rfl hsize rfl rfl (rest := rest) rfl
    (by rw [hb]; exact d6) (by rw [hb]; exact d9) hout hRframes (by simp only [List.map_cons, List.sum_cons, hcat]; omega) hlocks
  obtain ⟨f1, f2⟩ := vx_frame hsame
  rw [hhp] at f1 f2
  have hWs : s.WarmedH U.vm := State.WarmedH.trans hW0 hW
  have hcl : s.vm.findClass cls = some ce.cls := by
    have h9 := hO.1
    rw [hvm] at h9
    exact h9
  have hall : s.sameButNew ({ U with vm := s.vm } : State) locs mc ms := by
    subst hA
    obtain ⟨e1, e2⟩ := hsame
    rw [State.setFrames_setFrames] at e1
    have h2 : (T.setVm s.vm).sameButNew ({ U with vm := s.vm } : State) [] (0 + 1) (0 + 6) := ⟨e1, e2⟩
    have h3 := X.same.trans h2
    rw [List.append_nil] at h3
    exact h3.mono hc hs
  refine ⟨U, ?_, .threw T.heap.size, hrun, hend, Or.inr ⟨T.heap.size, rfl, cls, ce, locs, hx U hWs.alike f1 (fun q hq => f2 q hq (fun z hz => nomatch hz)), hce, hO.2, hcl, hWs, hall, hf⟩⟩
  refine st1 _ ?_
  show Steps p.tables e below (T1.setTop { method := m, pc := pc + 3, locals := ls, stack := .ref T.heap.size :: rest, locked := none }) _
  jvm_step X₁.here [X₁.here.top, hexec, d3', Value.category]
  exact X₁.ldcString hexec (own := own) (text := text) (index := is) (a := sa) hown' hstr'.1 hstr'.2
    (g := { method := m, pc := pc + 4, locals := ls, stack := .ref T.heap.size :: .ref T.heap.size :: rest, locked := none }) rfl d4' _ hsteps

noncomputable def wsX11_at2 : List Cond := .code yX11_at cX11_at 2 (some .int) :: ([.classLink RX11 160 "java/util/NoSuchElementException", .initialized "java/util/NoSuchElementException", .fieldLink RX11 34 "TextMender" "letters" "LTextMender$Numbers;", .methodLink RX11 94 yX5_length, .instanceMethod yX5_length, .selects RX5 yX5_length yX5_length, .initialized RX5, .code yX5_length cX5_length 1 (some .int), .fieldLink RX5 21 "TextMender$Numbers" "length" "I", .methodLink RX11 167 yX5_get, .instanceMethod yX5_get, .selects RX5 yX5_get yX5_get, .code yX5_get cX5_get 2 (some .int), .fieldLink RX5 15 "TextMender$Numbers" "numbers" "[I"] ++ wsX110 ++ wsX50 ++ (vx_atX RX11 164 "java/util/NoSuchElementException" 13 prog_22_method_4_code ["java/lang/RuntimeException", "java/lang/Exception"]).filter goodWord)

noncomputable def wsL_at2 : List Cond := .codeWith yL_at cL_at 4 (some .int) [(0, 9, 12, 13)] :: ([.classLink RL 13 "java/util/NoSuchElementException", .methodLink RL 7 yX11_at, .instanceMethod yX11_at, .selects RX11 yX11_at yX11_at, .initialized RX11, .code yX11_at cX11_at 2 (some .int), .classLink RX11 160 "java/util/NoSuchElementException", .initialized "java/util/NoSuchElementException", .fieldLink RX11 34 "TextMender" "letters" "LTextMender$Numbers;", .methodLink RX11 94 yX5_length, .instanceMethod yX5_length, .selects RX5 yX5_length yX5_length, .initialized RX5, .code yX5_length cX5_length 1 (some .int), .fieldLink RX5 21 "TextMender$Numbers" "length" "I", .methodLink RX11 167 yX5_get, .instanceMethod yX5_get, .selects RX5 yX5_get yX5_get, .code yX5_get cX5_get 2 (some .int), .fieldLink RX5 15 "TextMender$Numbers" "numbers" "[I"] ++ wsX110 ++ wsX50 ++ (vx_atX RX11 164 "java/util/NoSuchElementException" 13 prog_22_method_4_code ["java/lang/RuntimeException", "java/lang/Exception"]).filter goodWord)

end

/-! 62.a.rows -/
section
set_option maxRecDepth 100000 in
theorem dA399_cX11_at : kDec cX11_at [(0, .iload_n 1, 1), (1, .ifCond .lt 14, 3), (15, .new 160, 3), (18, .dup, 1), (19, .ldc 162, 2), (21, .invokespecial 164, 3), (24, .athrow, 1), (4, .iload_n 1, 1), (5, .aload_n 0, 1), (6, .getfield 34, 3), (9, .invokevirtual 94, 3), (12, .if_icmp .lt 13, 3), (25, .aload_n 0, 1), (26, .getfield 34, 3), (29, .iload_n 1, 1), (30, .invokevirtual 167, 3), (33, .ireturn, 1)] = true := by decide +kernel
theorem dX11_at_0 : decode cX11_at 0 = .ok (.iload_n 1, 1) := kDec_at dA399_cX11_at 0 rfl
theorem dX11_at_1 : decode cX11_at 1 = .ok (.ifCond .lt 14, 3) := kDec_at dA399_cX11_at 1 rfl
theorem dX11_at_15 : decode cX11_at 15 = .ok (.new 160, 3) := kDec_at dA399_cX11_at 2 rfl
theorem dX11_at_18 : decode cX11_at 18 = .ok (.dup, 1) := kDec_at dA399_cX11_at 3 rfl
theorem dX11_at_19 : decode cX11_at 19 = .ok (.ldc 162, 2) := kDec_at dA399_cX11_at 4 rfl
theorem dX11_at_21 : decode cX11_at 21 = .ok (.invokespecial 164, 3) := kDec_at dA399_cX11_at 5 rfl
theorem dX11_at_24 : decode cX11_at 24 = .ok (.athrow, 1) := kDec_at dA399_cX11_at 6 rfl
theorem dX11_at_4 : decode cX11_at 4 = .ok (.iload_n 1, 1) := kDec_at dA399_cX11_at 7 rfl
theorem dX11_at_5 : decode cX11_at 5 = .ok (.aload_n 0, 1) := kDec_at dA399_cX11_at 8 rfl
theorem dX11_at_6 : decode cX11_at 6 = .ok (.getfield 34, 3) := kDec_at dA399_cX11_at 9 rfl
theorem dX11_at_9 : decode cX11_at 9 = .ok (.invokevirtual 94, 3) := kDec_at dA399_cX11_at 10 rfl
theorem dX11_at_12 : decode cX11_at 12 = .ok (.if_icmp .lt 13, 3) := kDec_at dA399_cX11_at 11 rfl
theorem dX11_at_25 : decode cX11_at 25 = .ok (.aload_n 0, 1) := kDec_at dA399_cX11_at 12 rfl
theorem dX11_at_26 : decode cX11_at 26 = .ok (.getfield 34, 3) := kDec_at dA399_cX11_at 13 rfl
theorem dX11_at_29 : decode cX11_at 29 = .ok (.iload_n 1, 1) := kDec_at dA399_cX11_at 14 rfl
theorem dX11_at_30 : decode cX11_at 30 = .ok (.invokevirtual 167, 3) := kDec_at dA399_cX11_at 15 rfl
theorem dX11_at_33 : decode cX11_at 33 = .ok (.ireturn, 1) := kDec_at dA399_cX11_at 16 rfl
set_option maxRecDepth 20000 in
theorem ggX11_at_X5_length : GoodIn wsX11_at2 wsX5_length := goodIn_r _ [8, 9, 27, 28] rfl (by decide +kernel)
set_option maxRecDepth 20000 in
theorem gX11_at_X5_length : GoodIn wsX11_at2 (wsV RX11 94 RX5 yX5_length wsX5_length) := goodIn_app (goodIn_r _ [4, 5, 6, 7] rfl (by decide +kernel)) ggX11_at_X5_length
set_option maxRecDepth 20000 in
theorem ggX11_at_X5_get : GoodIn wsX11_at2 wsX5_get := goodIn_r _ [13, 9, 14, 27, 28] rfl (by decide +kernel)
set_option maxRecDepth 20000 in
theorem gX11_at_X5_get : GoodIn wsX11_at2 (wsV RX11 167 RX5 yX5_get wsX5_get) := goodIn_app (goodIn_r _ [10, 11, 12, 7] rfl (by decide +kernel)) ggX11_at_X5_get
set_option maxRecDepth 100000 in
theorem dA400_cL_at : kDec cL_at [(0, .aload_n 2, 1), (1, .iconst 0, 1), (2, .aload_n 0, 1), (3, .iload_n 1, 1), (4, .invokevirtual 7, 3), (12, .astore_n 3, 1), (13, .iconst 1, 1), (14, .ireturn, 1), (7, .i2l, 1), (8, .lastore, 1), (9, .goto 6, 3), (15, .iconst 0, 1), (16, .ireturn, 1)] = true := by decide +kernel
theorem dL_at_0 : decode cL_at 0 = .ok (.aload_n 2, 1) := kDec_at dA400_cL_at 0 rfl
theorem dL_at_1 : decode cL_at 1 = .ok (.iconst 0, 1) := kDec_at dA400_cL_at 1 rfl
theorem dL_at_2 : decode cL_at 2 = .ok (.aload_n 0, 1) := kDec_at dA400_cL_at 2 rfl
theorem dL_at_3 : decode cL_at 3 = .ok (.iload_n 1, 1) := kDec_at dA400_cL_at 3 rfl
theorem dL_at_4 : decode cL_at 4 = .ok (.invokevirtual 7, 3) := kDec_at dA400_cL_at 4 rfl
theorem dL_at_12 : decode cL_at 12 = .ok (.astore_n 3, 1) := kDec_at dA400_cL_at 5 rfl
theorem dL_at_13 : decode cL_at 13 = .ok (.iconst 1, 1) := kDec_at dA400_cL_at 6 rfl
theorem dL_at_14 : decode cL_at 14 = .ok (.ireturn, 1) := kDec_at dA400_cL_at 7 rfl
theorem dL_at_7 : decode cL_at 7 = .ok (.i2l, 1) := kDec_at dA400_cL_at 8 rfl
theorem dL_at_8 : decode cL_at 8 = .ok (.lastore, 1) := kDec_at dA400_cL_at 9 rfl
theorem dL_at_9 : decode cL_at 9 = .ok (.goto 6, 3) := kDec_at dA400_cL_at 10 rfl
theorem dL_at_15 : decode cL_at 15 = .ok (.iconst 0, 1) := kDec_at dA400_cL_at 11 rfl
theorem dL_at_16 : decode cL_at 16 = .ok (.ireturn, 1) := kDec_at dA400_cL_at 12 rfl
set_option maxRecDepth 20000 in
theorem ggL_at_X11_at : GoodIn wsL_at2 wsX11_at2 := goodIn_ca (goodIn_r _ [6, 7, 8, 9, 10, 11, 12, 13, 14, 15, 16, 17, 18, 19, 20, 21, 22, 23, 24, 25, 26, 27, 28, 29, 30, 31, 32, 33, 34] rfl (by decide +kernel)) (goodIn_sub (fun _ h => List.mem_cons_of_mem _ (List.mem_append_right _ h)) (by decide +kernel))
set_option maxRecDepth 20000 in
theorem gL_at_X11_at : GoodIn wsL_at2 (wsV RL 7 RX11 yX11_at wsX11_at2) := goodIn_app (goodIn_r _ [2, 3, 4, 5] rfl (by decide +kernel)) ggL_at_X11_at

end

/-! 62.at -/
section
theorem p_x0 : decode prog_22_method_4_code 0 = .ok (.aload_n 0, 1) := by decide +kernel

theorem p_x1 : decode prog_22_method_4_code 1 = .ok (.aload_n 1, 1) := by decide +kernel

theorem p_x2 : decode prog_22_method_4_code 2 = .ok (.invokespecial 13, 3) := by decide +kernel

theorem p_x5 : decode prog_22_method_4_code 5 = .ok (.return_, 1) := by decide +kernel

/-- the words of the throw that aren't kept by the tables alone -/
def p_Dw (U : State) : Prop := va_Nw (.castable "java/util/NoSuchElementException" "java/util/NoSuchElementException") U ∧ va_Nw (.declares ⟨"java/lang/RuntimeException", "<init>", "(Ljava/lang/String;)V"⟩) U ∧ va_Nw (.declares ⟨"java/lang/Exception", "<init>", "(Ljava/lang/String;)V"⟩) U ∧ va_Nw (.declares ⟨"java/lang/Throwable", "<init>", "(Ljava/lang/String;)V"⟩) U
theorem p_Dw.same {u U : State} (h : u.vm = U.vm) (z : p_Dw u) : p_Dw U := ⟨va_Nw.same rfl h z.1, va_Nw.same rfl h z.2.1, va_Nw.same rfl h z.2.2.1, va_Nw.same rfl h z.2.2.2⟩
theorem p_Dw.warm {s U : State} (hW : s.WarmedH U.vm) (z : p_Dw s) : p_Dw U := ⟨va_Nw.warmC hW z.1, va_Nw.warmD hW z.2.1, va_Nw.warmD hW z.2.2.1, va_Nw.warmD hW z.2.2.2⟩
theorem p_ofWH {l : Launch} {y : MethodName} {ws ws' : List Cond} {rm : Room} {Pc : Array Value → State → Prop} {Qc : Array Value → State → Outcome → State → Prop} {mc ms : Nat} {free : Addr → Prop} {cc : ByteArray} {maxL : Nat} {ret : Option FieldType} {hh : List (Nat × Nat × Nat × Nat)}
    (hy : plainName y.cls = true) (hw : ws = Cond.codeWith y cc maxL ret hh :: ws')
    (body : ∀ p e s m args below meth c s₁, BodyLoose p l y (headSpec ws rm) cc maxL ret e s m args below meth c s₁ → c.maxLocals = maxL → Pc args s →
      W p l e (headSpec ws rm).room s m args below meth c s.heap [] 0 0 (MQ below Qc args s mc ms free) (entryFrame m args maxL)) : Met l y ws rm Pc Qc mc ms free := by
  refine MetFree.of_bodyS (code := cc) (maxLocals := maxL) (ret := ret) hy ?_ ?_
  · intro args s m h hn
    obtain ⟨m9, meth, c, hn9, h1, h2, h3, h4, -, h5, h6, -⟩ := Cond.codeWith_spec (atoms_spec (ws := ws) h _ (by rw [hw]; exact List.mem_cons_self))
    cases hn.symm.trans hn9
    exact ⟨meth, c, h1, h2, h3, h4, h5, h6⟩
  · intro p e s m args below meth c s₁ B hml hP _
    have hh0 : s₁.heap = s.heap := by rw [B.state]; rfl
    obtain ⟨t, a1, o, b1, b2, b3⟩ := body p e s m args below meth c s₁ B hml hP s₁ hh0 (Stand.of_body B)
    exact ⟨t, o, a1, b1, b2, ⟨b3.1, b3.2⟩⟩

set_option maxHeartbeats 4000000 in
set_option maxRecDepth 100000 in
/-- at(i): the letter, or the throw -/
theorem x_at (l : Launch) (hst : l.stackTraces = false) (dC : Nat → ClassId) (dI : Nat → Nat → Nat) (cI cS : ClassId) (sz : Nat) (oX : Nat) (nT : Nat) (nL : Nat) (nM : Nat) (oC : Nat) (oP : Nat) (oH : Nat) (oK : Nat) (oG : Nat) (oR : Nat) (oQ : Nat) (oW : Nat) (aL : Nat) (fa : Int32) (lL : Int32) (fL : Nat → Int32) (i : Int32) (sa : Nat) (g_lL : 0 ≤ lL.toInt ∧ lL.toInt ≤ 300) : vx_Met l yX11_at wsX11_at2 ({ frames := 6, cells := 1, slots := 6, locals := 100 } : Room) (va_Pc [.ref oX, .int i] (fun U => U.heap.size = sz ∧ va_P (dC, dI) vwCl [(oX, .inr (11, [.ref nT, .ref nL, .ref nM, .ref oC, .ref oP, .ref oH, .ref oK, .ref oG, .ref oR, .ref oQ, .ref oW, .int fa])), (nL, .inr (5, [.ref aL, .int lL])), (aL, .inl (cI, 300, .inl fL))] U.heap ∧ va_K (dC, dI) vwCl [(cI, .int), (cS, .short)] U ∧ va_D (fun _ => True) [(oX, .inr (11, [.ref nT, .ref nL, .ref nM, .ref oC, .ref oP, .ref oH, .ref oK, .ref oG, .ref oR, .ref oQ, .ref oW, .int fa])), (nL, .inr (5, [.ref aL, .int lL])), (aL, .inl (cI, 300, .inl fL))] ∧ p_Dw U ∧ vk_R RX11 162 "no such letter" sa U ∧ vx_Zq Bundle.tN "UNASSIGNED_STACK" Bundle.steD (va_A [(oX, .inr (11, [.ref nT, .ref nL, .ref nM, .ref oC, .ref oP, .ref oH, .ref oK, .ref oG, .ref oR, .ref oQ, .ref oW, .int fa])), (nL, .inr (5, [.ref aL, .int lL])), (aL, .inl (cI, 300, .inl fL))] sz) U U.heap ∧ vx_Zq Bundle.tN "SUPPRESSED_SENTINEL" Bundle.listD (va_A [(oX, .inr (11, [.ref nT, .ref nL, .ref nM, .ref oC, .ref oP, .ref oH, .ref oK, .ref oG, .ref oR, .ref oQ, .ref oW, .int fa])), (nL, .inr (5, [.ref aL, .int lL])), (aL, .inl (cI, 300, .inl fL))] sz) U U.heap)) (va_Qi (fun (r : Int32) (u : Int32) => r = u) (fun (r : Int32) t => va_P (dC, dI) vwCl [(oX, .inr (11, [.ref nT, .ref nL, .ref nM, .ref oC, .ref oP, .ref oH, .ref oK, .ref oG, .ref oR, .ref oQ, .ref oW, .int fa])), (nL, .inr (5, [.ref aL, .int lL])), (aL, .inl (cI, 300, .inl fL))] t.heap ∧ va_D (va_A [(oX, .inr (11, [.ref nT, .ref nL, .ref nM, .ref oC, .ref oP, .ref oH, .ref oK, .ref oG, .ref oR, .ref oQ, .ref oW, .int fa])), (nL, .inr (5, [.ref aL, .int lL])), (aL, .inl (cI, 300, .inl fL))] sz) [(oX, .inr (11, [.ref nT, .ref nL, .ref nM, .ref oC, .ref oP, .ref oH, .ref oK, .ref oG, .ref oR, .ref oQ, .ref oW, .int fa])), (nL, .inr (5, [.ref aL, .int lL])), (aL, .inl (cI, 300, .inl fL))] ∧ F_get lL i r fL ∧ 0 ≤ i.toInt ∧ i.toInt < lL.toInt) (va_A [(oX, .inr (11, [.ref nT, .ref nL, .ref nM, .ref oC, .ref oP, .ref oH, .ref oK, .ref oG, .ref oR, .ref oQ, .ref oW, .int fa])), (nL, .inr (5, [.ref aL, .int lL])), (aL, .inl (cI, 300, .inl fL))] sz)) (vx_X (fun (_ : Unit) => True) (fun E _ t => E = "java/util/NoSuchElementException" ∧ va_P (dC, dI) vwCl [(oX, .inr (11, [.ref nT, .ref nL, .ref nM, .ref oC, .ref oP, .ref oH, .ref oK, .ref oG, .ref oR, .ref oQ, .ref oW, .int fa])), (nL, .inr (5, [.ref aL, .int lL])), (aL, .inl (cI, 300, .inl fL))] t.heap ∧ va_D (va_A [(oX, .inr (11, [.ref nT, .ref nL, .ref nM, .ref oC, .ref oP, .ref oH, .ref oK, .ref oG, .ref oR, .ref oQ, .ref oW, .int fa])), (nL, .inr (5, [.ref aL, .int lL])), (aL, .inl (cI, 300, .inl fL))] sz) [(oX, .inr (11, [.ref nT, .ref nL, .ref nM, .ref oC, .ref oP, .ref oH, .ref oK, .ref oG, .ref oR, .ref oQ, .ref oW, .int fa])), (nL, .inr (5, [.ref aL, .int lL])), (aL, .inl (cI, 300, .inl fL))] ∧ (i.toInt < 0 ∨ lL.toInt ≤ i.toInt)) (va_A [(oX, .inr (11, [.ref nT, .ref nL, .ref nM, .ref oC, .ref oP, .ref oH, .ref oK, .ref oG, .ref oR, .ref oQ, .ref oW, .int fa])), (nL, .inr (5, [.ref aL, .int lL])), (aL, .inl (cI, 300, .inl fL))] sz)) 1 6 (va_A [(oX, .inr (11, [.ref nT, .ref nL, .ref nM, .ref oC, .ref oP, .ref oH, .ref oK, .ref oG, .ref oR, .ref oQ, .ref oW, .int fa])), (nL, .inr (5, [.ref aL, .int lL])), (aL, .inl (cI, 300, .inl fL))] sz) := by
  refine vx_ofW (cc := cX11_at) (maxL := 2) (ret := (some .int)) (by decide) rfl ?_
  intro p e s m args below meth c s₁ B hml htab hv
  obtain ⟨rfl, hsz, hP, hK, hD0, hcast, hstr, hU, hN⟩ := hv
  have hx := B.exec
  have hb := B.bytes
  have hr := B.returns
  have hts := atoms_spec (ws := wsX11_at2) B.pre
  have hown : s.vm.findClass RX11 = some m.cls := findClass_of_methodNamed B.named
  have hlocks := B.notSynchronized
  have hcf := k_cf hx hb hml hown hts
  have in_X11 : ∀ w ∈ wsX110, w ∈ wsX11_at2 := fun _ h => List.mem_cons_of_mem _ (List.mem_append_left _ (List.mem_append_left _ (List.mem_append_right _ (h))))
  subst hsz
  have hD := hD0.self (sz := s.heap.size)
  generalize hAe : va_A [(oX, .inr (11, [.ref nT, .ref nL, .ref nM, .ref oC, .ref oP, .ref oH, .ref oK, .ref oG, .ref oR, .ref oQ, .ref oW, .int fa])), (nL, .inr (5, [.ref aL, .int lL])), (aL, .inl (cI, 300, .inl fL))] s.heap.size = A at hD hU hN ⊢
  have hA : ∀ q : Nat, s.heap.size ≤ q → A q := fun q h => by rw [← hAe]; exact Or.inr h
  have hS : va_S A s.heap s.heap [] := va_S.rf
  have hP : va_P (dC, dI) vwCl [(oX, .inr (11, [.ref nT, .ref nL, .ref nM, .ref oC, .ref oP, .ref oH, .ref oK, .ref oG, .ref oR, .ref oQ, .ref oW, .int fa])), (nL, .inr (5, [.ref aL, .int lL])), (aL, .inl (cI, 300, .inl fL))] s.heap := hP
  have hl := lv_entry ([.ref oX, .int i]) (n := 2) (Nat.le_of_ble_eq_true rfl)
  rw [lg_entry_eq]
  generalize (lg_sl ([.ref oX, .int i]) ++ List.replicate (2 - (lg_sl ([.ref oX, .int i])).length) Slot.unset).toArray = ls at hl ⊢
  have hl : lv_has ls 2 [(0, .ref oX), (1, .int i)] := hl
  refine lv_iload_n hx hb dX11_at_0 rfl (lv_at hl 1 rfl) ?_
  refine lv_if_lt (tgt := 15) hx hb dX11_at_1 (by decide) (fun c_1 => ?_) (fun c_1 => ?_)
  · have tc_1 : i.toInt < 0 := v_lt c_1
    have hP9 := hP.sub (ws' := [(oX, .inr (11, [.ref nT, .ref nL, .ref nM, .ref oC, .ref oP, .ref oH, .ref oK, .ref oG, .ref oR, .ref oQ, .ref oW, .int fa])), (nL, .inr (5, [.ref aL, .int lL])), (aL, .inl (cI, 300, .inl fL))]) [0, 1, 2] rfl
    have hD9 := hD.sub (ws' := [(oX, .inr (11, [.ref nT, .ref nL, .ref nM, .ref oC, .ref oP, .ref oH, .ref oK, .ref oG, .ref oR, .ref oQ, .ref oW, .int fa])), (nL, .inr (5, [.ref aL, .int lL])), (aL, .inl (cI, 300, .inl fL))]) [0, 1, 2] (by decide +kernel) rfl
    refine p_throwX (ix := 13) (rx := prog_22_method_4_code) (cls := "java/util/NoSuchElementException") (text := "no such letter") (names := ["java/lang/RuntimeException", "java/lang/Exception"]) (ik := 160) (is := 162) (ic := 164) (sa := sa) (A := A) hx hb hst p_x0 p_x1 p_x2 p_x5 hown (by decide) (by decide) (hts (.classLink RX11 160 "java/util/NoSuchElementException") (List.mem_of_getElem? (i := 1) rfl)) (hts (.initialized "java/util/NoSuchElementException") (List.mem_of_getElem? (i := 2) rfl)) hstr (vx_hat (B := [.castable "java/util/NoSuchElementException" "java/util/NoSuchElementException", .declares ⟨"java/lang/RuntimeException", "<init>", "(Ljava/lang/String;)V"⟩, .declares ⟨"java/lang/Exception", "<init>", "(Ljava/lang/String;)V"⟩, .declares ⟨"java/lang/Throwable", "<init>", "(Ljava/lang/String;)V"⟩]) (fun w h => hts w (List.mem_cons_of_mem _ (List.mem_append_right _ h))) (by decide +kernel) (vx_c (va_Nw.use rfl hcast.1) (vx_c (va_Nw.use rfl hcast.2.1) (vx_c (va_Nw.use rfl hcast.2.2.1) (vx_c (va_Nw.use rfl hcast.2.2.2) vx_n))))) (by decide +kernel) hU hN hS (hl.1.trans hml.symm) dX11_at_15 dX11_at_18 dX11_at_19 dX11_at_21 dX11_at_24 (fun x h9 => (htab x h9).elim) (by decide) (Nat.le_of_ble_eq_true rfl) (Nat.le_of_ble_eq_true rfl) (Nat.le_of_ble_eq_true rfl) hlocks (fun t ha hz hk => ⟨(), trivial, ⟨rfl, hP9.kept (fun k q hq => hk q.1 (vx_lt hP9 hq)), hD9, by omega⟩, Nat.le_trans hS.1 hz, fun q h1 h2 => (hk q (Nat.lt_of_lt_of_le h1 hS.1)).trans (hS.2.1 q h1 h2)⟩) hS.2.2 (by decide) (by decide)
  · have tc_1 : 0 ≤ i.toInt := v_nlt c_1
    refine lv_iload_n hx hb dX11_at_4 rfl (lv_at hl 1 rfl) ?_
    refine lv_aload_n hx hb dX11_at_5 rfl (lv_at hl 0 rfl) ?_
    refine va_get (D := (dC, dI)) (ci := 11) (v := .ref nL) (C := RX11) (T := TX11) (N := 12) hx hb hts in_X11 hown hK hP 0 rfl rfl 1 (Nat.le_of_ble_eq_true rfl) (hts (.fieldLink RX11 34 "TextMender" "letters" "LTextMender$Numbers;") (List.mem_of_getElem? (i := 3) rfl)) (fun _ h9 => h9) rfl dX11_at_6 ?_
    refine kV_i (rest := [.int i]) (q0 := 0) (ci := 5) hcf (m_X5_length l dC dI cI cS s.heap.size nL aL lL ) kc_X5_length gX11_at_X5_length rfl rfl rfl ⟨Nat.le_of_ble_eq_true rfl, Nat.le_of_ble_eq_true rfl⟩ kX_t hK hP hD hS hA [1] [0, 2] rfl (by decide +kernel) rfl rfl rfl hl rfl (Nat.le_of_ble_eq_true rfl) dX11_at_9 ⟨Nat.le_of_ble_eq_true rfl, Nat.le_of_ble_eq_true rfl⟩ (fun r_2 H locs hB hJ hSn => ?_)
    refine hB _ (fun hPD9 hf2_0 => ?_)
    clear hB
    obtain ⟨hPn, hDn⟩ := hJ _ hPD9.1 hPD9.2 [(oX, .inr (11, [.ref nT, .ref nL, .ref nM, .ref oC, .ref oP, .ref oH, .ref oK, .ref oG, .ref oR, .ref oQ, .ref oW, .int fa])), (aL, .inl (cI, 300, .inl fL)), (nL, .inr (5, [.ref aL, .int lL]))] rfl
    clear hP hD hS hJ hPD9
    have hP := hPn
    have hD := hDn
    have hS := hSn
    clear hPn hDn hSn
    rw [hf2_0]
    refine lv_icmp_lt (tgt := 25) hx hb dX11_at_12 (by decide) (fun c_3 => ?_) (fun c_3 => ?_)
    · have tc_3 : i.toInt < lL.toInt := v_lt c_3
      have rw3_0 := v_rng i
      refine lv_aload_n hx hb dX11_at_25 rfl (lv_at hl 0 rfl) ?_
      refine va_get (D := (dC, dI)) (ci := 11) (v := .ref nL) (C := RX11) (T := TX11) (N := 12) hx hb hts in_X11 hown hK hP 0 rfl rfl 1 (Nat.le_of_ble_eq_true rfl) (hts (.fieldLink RX11 34 "TextMender" "letters" "LTextMender$Numbers;") (List.mem_of_getElem? (i := 3) rfl)) (fun _ h9 => h9) rfl dX11_at_26 ?_
      refine lv_iload_n hx hb dX11_at_29 rfl (lv_at hl 1 rfl) ?_
      refine kV_i (rest := []) (q0 := 0) (ci := 5) hcf (m_X5_get l dC dI cI cS H.size nL aL 300 lL fL i (by omega) (by omega)) kc_X5_get gX11_at_X5_get rfl rfl rfl ⟨Nat.le_of_ble_eq_true rfl, Nat.le_of_ble_eq_true rfl⟩ kX_t hK hP hD hS hA [2, 1] [0] rfl (by decide +kernel) rfl rfl rfl hl rfl (Nat.le_of_ble_eq_true rfl) dX11_at_30 ⟨Nat.le_of_ble_eq_true rfl, Nat.le_of_ble_eq_true rfl⟩ (fun r_4 H locs hB hJ hSn => ?_)
      refine hB _ (fun hPD9 hf4_0 => ?_)
      clear hB
      obtain ⟨hPn, hDn⟩ := hJ _ hPD9.1 hPD9.2 [(oX, .inr (11, [.ref nT, .ref nL, .ref nM, .ref oC, .ref oP, .ref oH, .ref oK, .ref oG, .ref oR, .ref oQ, .ref oW, .int fa])), (nL, .inr (5, [.ref aL, .int lL])), (aL, .inl (cI, 300, .inl fL))] rfl
      clear hP hD hS hJ hPD9
      have hP := hPn
      have hD := hDn
      have hS := hSn
      clear hPn hDn hSn
      have hP9 := hP.sub (ws' := [(oX, .inr (11, [.ref nT, .ref nL, .ref nM, .ref oC, .ref oP, .ref oH, .ref oK, .ref oG, .ref oR, .ref oQ, .ref oW, .int fa])), (nL, .inr (5, [.ref aL, .int lL])), (aL, .inl (cI, 300, .inl fL))]) [0, 1, 2] rfl
      have hD9 := hD.sub (ws' := [(oX, .inr (11, [.ref nT, .ref nL, .ref nM, .ref oC, .ref oP, .ref oH, .ref oK, .ref oG, .ref oR, .ref oQ, .ref oW, .int fa])), (nL, .inr (5, [.ref aL, .int lL])), (aL, .inl (cI, 300, .inl fL))]) [0, 1, 2] (by decide +kernel) rfl
      refine vx_ret ?_
      refine W.widen (k := 1) (n := 6) (by omega) (by omega) ?_
      exact W.iret (v := r_4) hx hb hr (fun t ht hW => ⟨⟨r_4, r_4, rfl, rfl, ⟨by rw [ht]; exact hP9, hD9, hf4_0, by omega, by omega⟩⟩, hS.F ht⟩) hS.2.2 dX11_at_33
    · have tc_3 : lL.toInt ≤ i.toInt := v_nlt c_3
      have rw3_0 := v_rng i
      have hP9 := hP.sub (ws' := [(oX, .inr (11, [.ref nT, .ref nL, .ref nM, .ref oC, .ref oP, .ref oH, .ref oK, .ref oG, .ref oR, .ref oQ, .ref oW, .int fa])), (nL, .inr (5, [.ref aL, .int lL])), (aL, .inl (cI, 300, .inl fL))]) [0, 2, 1] rfl
      have hD9 := hD.sub (ws' := [(oX, .inr (11, [.ref nT, .ref nL, .ref nM, .ref oC, .ref oP, .ref oH, .ref oK, .ref oG, .ref oR, .ref oQ, .ref oW, .int fa])), (nL, .inr (5, [.ref aL, .int lL])), (aL, .inl (cI, 300, .inl fL))]) [0, 2, 1] (by decide +kernel) rfl
      refine p_throwX (ix := 13) (rx := prog_22_method_4_code) (cls := "java/util/NoSuchElementException") (text := "no such letter") (names := ["java/lang/RuntimeException", "java/lang/Exception"]) (ik := 160) (is := 162) (ic := 164) (sa := sa) (A := A) hx hb hst p_x0 p_x1 p_x2 p_x5 hown (by decide) (by decide) (hts (.classLink RX11 160 "java/util/NoSuchElementException") (List.mem_of_getElem? (i := 1) rfl)) (hts (.initialized "java/util/NoSuchElementException") (List.mem_of_getElem? (i := 2) rfl)) hstr (vx_hat (B := [.castable "java/util/NoSuchElementException" "java/util/NoSuchElementException", .declares ⟨"java/lang/RuntimeException", "<init>", "(Ljava/lang/String;)V"⟩, .declares ⟨"java/lang/Exception", "<init>", "(Ljava/lang/String;)V"⟩, .declares ⟨"java/lang/Throwable", "<init>", "(Ljava/lang/String;)V"⟩]) (fun w h => hts w (List.mem_cons_of_mem _ (List.mem_append_right _ h))) (by decide +kernel) (vx_c (va_Nw.use rfl hcast.1) (vx_c (va_Nw.use rfl hcast.2.1) (vx_c (va_Nw.use rfl hcast.2.2.1) (vx_c (va_Nw.use rfl hcast.2.2.2) vx_n))))) (by decide +kernel) hU hN hS (hl.1.trans hml.symm) dX11_at_15 dX11_at_18 dX11_at_19 dX11_at_21 dX11_at_24 (fun x h9 => (htab x h9).elim) (by decide) (Nat.le_of_ble_eq_true rfl) (Nat.le_of_ble_eq_true rfl) (Nat.le_of_ble_eq_true rfl) hlocks (fun t ha hz hk => ⟨(), trivial, ⟨rfl, hP9.kept (fun k q hq => hk q.1 (vx_lt hP9 hq)), hD9, by omega⟩, Nat.le_trans hS.1 hz, fun q h1 h2 => (hk q (Nat.lt_of_lt_of_le h1 hS.1)).trans (hS.2.1 q h1 h2)⟩) hS.2.2 (by decide) (by decide)

set_option maxHeartbeats 4000000 in
set_option maxRecDepth 100000 in
/-- the law's own at: the letter into its row of one long, or 1 where at throws -/
theorem m_L_at (l : Launch) (hst : l.stackTraces = false) (dC : Nat → ClassId) (dI : Nat → Nat → Nat) (cI cS cJ : ClassId) (sz : Nat) (oX : Nat) (nT : Nat) (nL : Nat) (nM : Nat) (oC : Nat) (oP : Nat) (oH : Nat) (oK : Nat) (oG : Nat) (oR : Nat) (oQ : Nat) (oW : Nat) (aL : Nat) (fa : Int32) (lL : Int32) (fL : Nat → Int32) (oJ : Nat) (fJ : Nat → Int64) (i : Int32) (sa : Nat) (g_lL : 0 ≤ lL.toInt ∧ lL.toInt ≤ 300) : Met l yL_at wsL_at2 ({ frames := 7, cells := 1, slots := 6, locals := 130 } : Room) (va_Pc [.ref oX, .int i, .ref oJ] (fun U => U.heap.size = sz ∧ va_P (dC, dI) vwCl [(oX, .inr (11, [.ref nT, .ref nL, .ref nM, .ref oC, .ref oP, .ref oH, .ref oK, .ref oG, .ref oR, .ref oQ, .ref oW, .int fa])), (nL, .inr (5, [.ref aL, .int lL])), (aL, .inl (cI, 300, .inl fL)), (oJ, .inl (cJ, 1, .inr (.inl fJ)))] U.heap ∧ va_K (dC, dI) vwCl [(cI, .int), (cS, .short), (cJ, .long)] U ∧ va_D (fun _ => True) [(oX, .inr (11, [.ref nT, .ref nL, .ref nM, .ref oC, .ref oP, .ref oH, .ref oK, .ref oG, .ref oR, .ref oQ, .ref oW, .int fa])), (nL, .inr (5, [.ref aL, .int lL])), (aL, .inl (cI, 300, .inl fL)), (oJ, .inl (cJ, 1, .inr (.inl fJ)))] ∧ p_Dw U ∧ vk_R RX11 162 "no such letter" sa U ∧ vx_Zq Bundle.tN "UNASSIGNED_STACK" Bundle.steD (va_A [(oX, .inr (11, [.ref nT, .ref nL, .ref nM, .ref oC, .ref oP, .ref oH, .ref oK, .ref oG, .ref oR, .ref oQ, .ref oW, .int fa])), (nL, .inr (5, [.ref aL, .int lL])), (aL, .inl (cI, 300, .inl fL)), (oJ, .inl (cJ, 1, .inr (.inl fJ)))] sz) U U.heap ∧ vx_Zq Bundle.tN "SUPPRESSED_SENTINEL" Bundle.listD (va_A [(oX, .inr (11, [.ref nT, .ref nL, .ref nM, .ref oC, .ref oP, .ref oH, .ref oK, .ref oG, .ref oR, .ref oQ, .ref oW, .int fa])), (nL, .inr (5, [.ref aL, .int lL])), (aL, .inl (cI, 300, .inl fL)), (oJ, .inl (cJ, 1, .inr (.inl fJ)))] sz) U U.heap)) (va_Qi (fun (r : Int32) (u : Int32) => r = u) (fun (r : Int32) t => ∃ fJ' : Nat → Int64, va_P (dC, dI) vwCl [(oX, .inr (11, [.ref nT, .ref nL, .ref nM, .ref oC, .ref oP, .ref oH, .ref oK, .ref oG, .ref oR, .ref oQ, .ref oW, .int fa])), (nL, .inr (5, [.ref aL, .int lL])), (aL, .inl (cI, 300, .inl fL)), (oJ, .inl (cJ, 1, .inr (.inl fJ')))] t.heap ∧ va_D (va_A [(oX, .inr (11, [.ref nT, .ref nL, .ref nM, .ref oC, .ref oP, .ref oH, .ref oK, .ref oG, .ref oR, .ref oQ, .ref oW, .int fa])), (nL, .inr (5, [.ref aL, .int lL])), (aL, .inl (cI, 300, .inl fL)), (oJ, .inl (cJ, 1, .inr (.inl fJ)))] sz) [(oX, .inr (11, [.ref nT, .ref nL, .ref nM, .ref oC, .ref oP, .ref oH, .ref oK, .ref oG, .ref oR, .ref oQ, .ref oW, .int fa])), (nL, .inr (5, [.ref aL, .int lL])), (aL, .inl (cI, 300, .inl fL)), (oJ, .inl (cJ, 1, .inr (.inl fJ')))]) (va_A [(oX, .inr (11, [.ref nT, .ref nL, .ref nM, .ref oC, .ref oP, .ref oH, .ref oK, .ref oG, .ref oR, .ref oQ, .ref oW, .int fa])), (nL, .inr (5, [.ref aL, .int lL])), (aL, .inl (cI, 300, .inl fL)), (oJ, .inl (cJ, 1, .inr (.inl fJ)))] sz)) 1 6 (va_A [(oX, .inr (11, [.ref nT, .ref nL, .ref nM, .ref oC, .ref oP, .ref oH, .ref oK, .ref oG, .ref oR, .ref oQ, .ref oW, .int fa])), (nL, .inr (5, [.ref aL, .int lL])), (aL, .inl (cI, 300, .inl fL)), (oJ, .inl (cJ, 1, .inr (.inl fJ)))] sz) := by
  refine p_ofWH (cc := cL_at) (maxL := 4) (ret := (some .int)) (hh := [(0, 9, 12, 13)]) (by decide +kernel) rfl ?_
  intro p e s m args below meth c s₁ B hml hv
  obtain ⟨rfl, hsz, hP, hK3, hD0, hcast, hstr, hU, hN⟩ := hv
  have hK : va_K (dC, dI) vwCl [(cI, .int), (cS, .short)] s := hK3.sub [0, 1] rfl
  have hx := B.exec
  have hb := B.bytes
  have hr := B.returns
  have hts := atoms_spec (ws := wsL_at2) B.pre
  have hown : s.vm.findClass RL = some m.cls := findClass_of_methodNamed B.named
  have hlocks := B.notSynchronized
  have htab : c.exceptionTable.toList = tableOf [(0, 9, 12, 13)] := vx_table (x := yL_at) B (hts _ List.mem_cons_self)
  subst hsz
  have hD := hD0.self (sz := s.heap.size)
  generalize hAe : va_A [(oX, .inr (11, [.ref nT, .ref nL, .ref nM, .ref oC, .ref oP, .ref oH, .ref oK, .ref oG, .ref oR, .ref oQ, .ref oW, .int fa])), (nL, .inr (5, [.ref aL, .int lL])), (aL, .inl (cI, 300, .inl fL)), (oJ, .inl (cJ, 1, .inr (.inl fJ)))] s.heap.size = A at hD hU hN ⊢
  have hA : ∀ q : Nat, s.heap.size ≤ q → A q := fun q h => by rw [← hAe]; exact Or.inr h
  have hS : va_S A s.heap s.heap [] := va_S.rf
  have hP : va_P (dC, dI) vwCl [(oX, .inr (11, [.ref nT, .ref nL, .ref nM, .ref oC, .ref oP, .ref oH, .ref oK, .ref oG, .ref oR, .ref oQ, .ref oW, .int fa])), (nL, .inr (5, [.ref aL, .int lL])), (aL, .inl (cI, 300, .inl fL)), (oJ, .inl (cJ, 1, .inr (.inl fJ)))] s.heap := hP
  have hl := lv_entry ([.ref oX, .int i, .ref oJ]) (n := 4) (Nat.le_of_ble_eq_true rfl)
  rw [lg_entry_eq]
  generalize (lg_sl ([.ref oX, .int i, .ref oJ]) ++ List.replicate (4 - (lg_sl ([.ref oX, .int i, .ref oJ])).length) Slot.unset).toArray = ls at hl ⊢
  have hl : lv_has ls 4 [(0, .ref oX), (1, .int i), (2, .ref oJ)] := hl
  refine lv_aload_n hx hb dL_at_0 rfl (lv_at hl 2 rfl) ?_
  refine lv_iconst (v := 0) hx hb dL_at_1 (by decide) ?_
  refine lv_aload_n hx hb dL_at_2 rfl (lv_at hl 0 rfl) ?_
  refine lv_iload_n hx hb dL_at_3 rfl (lv_at hl 1 rfl) ?_
  have hPc := hP.sub (ws' := [(oX, .inr (11, [.ref nT, .ref nL, .ref nM, .ref oC, .ref oP, .ref oH, .ref oK, .ref oG, .ref oR, .ref oQ, .ref oW, .int fa])), (nL, .inr (5, [.ref aL, .int lL])), (aL, .inl (cI, 300, .inl fL))]) [0, 1, 2] rfl
  have hDc := hD.sub (ws' := [(oX, .inr (11, [.ref nT, .ref nL, .ref nM, .ref oC, .ref oP, .ref oH, .ref oK, .ref oG, .ref oR, .ref oQ, .ref oW, .int fa])), (nL, .inr (5, [.ref aL, .int lL])), (aL, .inl (cI, 300, .inl fL))]) [0, 1, 2] (by decide +kernel) rfl
  have hFc := va_free (wc := [(oX, .inr (11, [.ref nT, .ref nL, .ref nM, .ref oC, .ref oP, .ref oH, .ref oK, .ref oG, .ref oR, .ref oQ, .ref oW, .int fa])), (nL, .inr (5, [.ref aL, .int lL])), (aL, .inl (cI, 300, .inl fL))]) hD hS hA [0, 1, 2] rfl
  refine vx_calli (vx_runV (As := [.int i]) (rest := [.int 0, .ref oJ]) ⟨hx, hb, hml, hown, hts⟩ (x_at l hst dC dI cI cS s.heap.size oX nT nL nM oC oP oH oK oG oR oQ oW aL fa lL fL i sa g_lL) (cwV 1 hts gL_at_X11_at rfl rfl rfl (by decide +kernel) ⟨Nat.le_of_ble_eq_true rfl, Nat.le_of_ble_eq_true rfl⟩) ⟨fun a U g mk q => by obtain ⟨q0, q1, qP, qK, qD, qc, qs, qU, qN⟩ := q; exact ⟨q0, q1, qP, va_K.moved (u := U) (U := U.calling g mk a) (Vm.Alike.refl U.vm) qK, qD, p_Dw.same rfl qc, vk_R.same rfl qs, vx_Zq.moved (Vm.Alike.refl U.vm) qU, vx_Zq.moved (Vm.Alike.refl U.vm) qN⟩, va_recv hK hPc (ci := 11) (q0 := 0) rfl rfl, fun U hU9 hW => ⟨rfl, by rw [hU9], by rw [hU9]; exact hPc, va_K.moved hW.alike hK, hDc.weaken (fun _ _ _ _ => trivial), p_Dw.warm hW hcast, vk_R.warm hW hstr, by rw [hU9]; exact vx_Zq.moved hW.alike (hU.narrow hFc), by rw [hU9]; exact vx_Zq.moved hW.alike (hN.narrow hFc)⟩⟩ rfl rfl hl.1 rfl (lv_room (Nat.le_of_ble_eq_true rfl)) dL_at_4 ⟨Nat.le_of_ble_eq_true rfl, Nat.le_of_ble_eq_true rfl⟩) hS (fun q _ h => hFc q h) hFc (fun q _ h => hFc q h) (fun E ce q9 u t H1 locs ht hvm hw hB hz1 hk1 hS hcell hcv hcl => ?_) (fun r_9 u t H1 locs ht hvm hw hB hz1 hk1 hS => ?_)
  · obtain ⟨hE, hP1, hD1, -⟩ := hB
    rw [ht] at hP1
    obtain ⟨hP, hD⟩ := va_join (wr := [(oJ, .inl (cJ, 1, .inr (.inl fJ)))]) (w1 := [(oX, .inr (11, [.ref nT, .ref nL, .ref nM, .ref oC, .ref oP, .ref oH, .ref oK, .ref oG, .ref oR, .ref oQ, .ref oW, .int fa])), (nL, .inr (5, [.ref aL, .int lL])), (aL, .inl (cI, 300, .inl fL))]) hP hD [0, 1, 2] [3] rfl rfl (by decide +kernel) (by decide +kernel) hk1 hFc hP1 hD1
    subst hE
    refine vx_catch (own := RL) (name := "java/util/NoSuchElementException") hown [] ⟨0, 9, 12, 13⟩ [] htab (fun z hz => nomatch hz) (by decide) (by decide) (hts (.classLink RL 13 "java/util/NoSuchElementException") (List.mem_of_getElem? (i := 1) rfl)) (va_Nw.use rfl hcast.1) hcell hcv hcl ?_
    refine lv_astore_n (lv' := [(3, .ref q9), (0, .ref oX), (1, .int i), (2, .ref oJ)]) hx hb dL_at_12 rfl hl (by decide) rfl (fun ls hl => ?_)
    refine lv_iconst (v := 1) hx hb dL_at_13 (by decide) ?_
    refine W.widen (k := 1) (n := 6) (by omega) (by omega) ?_
    have hP9 := hP.sub (ws' := [(oX, .inr (11, [.ref nT, .ref nL, .ref nM, .ref oC, .ref oP, .ref oH, .ref oK, .ref oG, .ref oR, .ref oQ, .ref oW, .int fa])), (nL, .inr (5, [.ref aL, .int lL])), (aL, .inl (cI, 300, .inl fL)), (oJ, .inl (cJ, 1, .inr (.inl fJ)))]) [1, 2, 3, 0] rfl
    have hD9 := hD.sub (ws' := [(oX, .inr (11, [.ref nT, .ref nL, .ref nM, .ref oC, .ref oP, .ref oH, .ref oK, .ref oG, .ref oR, .ref oQ, .ref oW, .int fa])), (nL, .inr (5, [.ref aL, .int lL])), (aL, .inl (cI, 300, .inl fL)), (oJ, .inl (cJ, 1, .inr (.inl fJ)))]) [1, 2, 3, 0] (by decide +kernel) rfl
    exact W.iret (v := 1) hx hb hr (fun t9 ht9 hW => ⟨⟨1, 1, rfl, rfl, fJ, by rw [ht9]; exact hP9, hD9⟩, hS.F ht9⟩) hS.2.2 dL_at_14
  · obtain ⟨hP1, hD1, -⟩ := hB
    rw [ht] at hP1
    obtain ⟨hP, hD⟩ := va_join (wr := [(oJ, .inl (cJ, 1, .inr (.inl fJ)))]) (w1 := [(oX, .inr (11, [.ref nT, .ref nL, .ref nM, .ref oC, .ref oP, .ref oH, .ref oK, .ref oG, .ref oR, .ref oQ, .ref oW, .int fa])), (nL, .inr (5, [.ref aL, .int lL])), (aL, .inl (cI, 300, .inl fL))]) hP hD [0, 1, 2] [3] rfl rfl (by decide +kernel) (by decide +kernel) hk1 hFc hP1 hD1
    have hP : va_P (dC, dI) vwCl [(oJ, .inl (cJ, 1, .inr (.inl fJ))), (oX, .inr (11, [.ref nT, .ref nL, .ref nM, .ref oC, .ref oP, .ref oH, .ref oK, .ref oG, .ref oR, .ref oQ, .ref oW, .int fa])), (nL, .inr (5, [.ref aL, .int lL])), (aL, .inl (cI, 300, .inl fL))] H1 := hP
    have hD : va_D A [(oJ, .inl (cJ, 1, .inr (.inl fJ))), (oX, .inr (11, [.ref nT, .ref nL, .ref nM, .ref oC, .ref oP, .ref oH, .ref oK, .ref oG, .ref oR, .ref oQ, .ref oW, .int fa])), (nL, .inr (5, [.ref aL, .int lL])), (aL, .inl (cI, 300, .inl fL))] := hD
    refine lv_i2l (v := r_9.toInt64) hx hb dL_at_7 rfl ?_
    refine va_last hx hb hK3 hP hD hS 0 2 rfl rfl (by unfold vp_in; decide) dL_at_8 (fun H locs hP hD hS => ?_)
    have hP : va_P (dC, dI) vwCl [(oJ, .inl (cJ, 1, .inr (.inl (vp_updL fJ (0 : Int32).toNatClampNeg (r_9.toInt64))))), (oX, .inr (11, [.ref nT, .ref nL, .ref nM, .ref oC, .ref oP, .ref oH, .ref oK, .ref oG, .ref oR, .ref oQ, .ref oW, .int fa])), (nL, .inr (5, [.ref aL, .int lL])), (aL, .inl (cI, 300, .inl fL))] H := hP
    have hD : va_D A [(oJ, .inl (cJ, 1, .inr (.inl (vp_updL fJ (0 : Int32).toNatClampNeg (r_9.toInt64))))), (oX, .inr (11, [.ref nT, .ref nL, .ref nM, .ref oC, .ref oP, .ref oH, .ref oK, .ref oG, .ref oR, .ref oQ, .ref oW, .int fa])), (nL, .inr (5, [.ref aL, .int lL])), (aL, .inl (cI, 300, .inl fL))] := hD
    refine lv_goto (tgt := 15) hx hb dL_at_9 (by decide) ?_
    refine lv_iconst (v := 0) hx hb dL_at_15 (by decide) ?_
    refine W.widen (k := 1) (n := 6) (by omega) (by omega) ?_
    have hP9 := hP.sub (ws' := [(oX, .inr (11, [.ref nT, .ref nL, .ref nM, .ref oC, .ref oP, .ref oH, .ref oK, .ref oG, .ref oR, .ref oQ, .ref oW, .int fa])), (nL, .inr (5, [.ref aL, .int lL])), (aL, .inl (cI, 300, .inl fL)), (oJ, .inl (cJ, 1, .inr (.inl (vp_updL fJ (0 : Int32).toNatClampNeg (r_9.toInt64)))))]) [1, 2, 3, 0] rfl
    have hD9 := hD.sub (ws' := [(oX, .inr (11, [.ref nT, .ref nL, .ref nM, .ref oC, .ref oP, .ref oH, .ref oK, .ref oG, .ref oR, .ref oQ, .ref oW, .int fa])), (nL, .inr (5, [.ref aL, .int lL])), (aL, .inl (cI, 300, .inl fL)), (oJ, .inl (cJ, 1, .inr (.inl (vp_updL fJ (0 : Int32).toNatClampNeg (r_9.toInt64)))))]) [1, 2, 3, 0] (by decide +kernel) rfl
    exact W.iret (v := 0) hx hb hr (fun t9 ht9 hW => ⟨⟨0, 0, rfl, rfl, _, by rw [ht9]; exact hP9, hD9⟩, hS.F ht9⟩) hS.2.2 dL_at_16

end

/-! 64.a.rows -/
section
set_option maxRecDepth 20000 in
theorem gX11_feed_all : wsX11_feed.all goodWord = true := by
  unfold wsX11_feed
  exact good_c (by decide +kernel) (good_a (good_a (good_a (good_a ((by decide +kernel)) gX11_clsall) gX5_clsall) gX5_length_all) gX5_add_all)
set_option maxRecDepth 20000 in
theorem gX12_feed_all : wsX12_feed.all goodWord = true := by
  unfold wsX12_feed
  exact good_c (by decide +kernel) (good_a ((by decide +kernel)) gX12_clsall)
set_option maxRecDepth 20000 in
theorem gX11_end_all : wsX11_end.all goodWord = true := by
  unfold wsX11_end
  exact good_c (by decide +kernel) (good_a (good_a (good_a (good_a ((by decide +kernel)) gX11_clsall) gX5_clsall) gX5_length_all) gX5_cut_all)
set_option maxRecDepth 20000 in
theorem gX12_end_all : wsX12_end.all goodWord = true := by
  unfold wsX12_end
  exact good_c (by decide +kernel) (good_a ((by decide +kernel)) gX12_clsall)
set_option maxRecDepth 20000 in
theorem gX11_text_all : wsX11_text.all goodWord = true := by
  unfold wsX11_text
  exact good_c (by decide +kernel) (good_a (good_a (good_a (good_a (good_a (good_a (good_a (good_a (good_a ((by decide +kernel)) gX11_clsall) gX5_clsall) gX0_clsall) gX1_clsall) gX5_length_all) gX11_tapeHoldsLetters_all) gX5_takeAll_all) gX5_cut_all) gX11_become_all)
set_option maxRecDepth 20000 in
theorem gX12_text_all : wsX12_text.all goodWord = true := by
  unfold wsX12_text
  exact good_c (by decide +kernel) (good_a (good_a (good_a ((by decide +kernel)) gX12_clsall) gX12_isLetter_all) gX12_become_all)
set_option maxRecDepth 20000 in
theorem gX11_read_all : wsX11_read.all goodWord = true := by
  unfold wsX11_read
  exact good_c (by decide +kernel) (good_a (good_a (good_a (good_a (good_a (good_a (good_a (good_a (good_a (good_a (good_a (good_a (good_a ((by decide +kernel)) gX11_clsall) gX5_clsall) gX7_clsall) gX2_clsall) gX10_clsall) gX0_clsall) gX1_clsall) gX2_known_all) gX11_tapeHoldsBytes_all) gX7_readExactly_all) gX7_fault_all) gX5_cut_all) gX11_become_all)
set_option maxRecDepth 20000 in
theorem gX12_read__all : wsX12_read_.all goodWord = true := by
  unfold wsX12_read_
  exact good_c (by decide +kernel) (good_a (good_a (good_a (good_a ((by decide +kernel)) gX12_clsall) gX12_isCode_all) gX12_read_all) gX12_become_all)
set_option maxRecDepth 20000 in
theorem gX11_span_all : wsX11_span.all goodWord = true := by
  unfold wsX11_span
  exact good_c (by decide +kernel) (good_a (good_a (good_a (good_a (good_a (good_a (good_a (good_a (good_a ((by decide +kernel)) gX11_clsall) gX2_clsall) gX10_clsall) gX1_clsall) gX2_toldCode_all) gX10_canTake_all) gX10_tell_all) gX1_forgetFreshness_all) gX10_length_all)
set_option maxRecDepth 20000 in
theorem gX12_span_all : wsX12_span.all goodWord = true := by
  unfold wsX12_span
  exact good_c (by decide +kernel) (good_a (good_a ((by decide +kernel)) gX12_clsall) gX12_isLetter_all)
set_option maxRecDepth 20000 in
theorem gX11_blank_all : wsX11_blank.all goodWord = true := by
  unfold wsX11_blank
  exact good_c (by decide +kernel) (good_a (good_a (good_a (good_a (good_a (good_a (good_a ((by decide +kernel)) gX11_clsall) gX2_clsall) gX10_clsall) gX1_clsall) gX2_toldCode_all) gX10_empty_all) gX1_forgetFreshness_all)
set_option maxRecDepth 20000 in
theorem gX12_blank_all : wsX12_blank.all goodWord = true := by
  unfold wsX12_blank
  exact good_c (by decide +kernel) (good_a ((by decide +kernel)) gX12_clsall)
set_option maxRecDepth 20000 in
theorem gX11_count_all : wsX11_count.all goodWord = true := by
  unfold wsX11_count
  exact good_c (by decide +kernel) (good_a (good_a (good_a (good_a (good_a (good_a (good_a (good_a (good_a (good_a (good_a (good_a (good_a ((by decide +kernel)) gX11_clsall) gX5_clsall) gX4_clsall) gX0_clsall) gX3_clsall) gX2_clsall) gX10_clsall) gX5_length_all) gX4_length_all) gX0_length_all) gX11_marksOf_all) gX3_length_all) gX2_lengthOf_all)
set_option maxRecDepth 20000 in
theorem gX12_count_all : wsX12_count.all goodWord = true := by
  unfold wsX12_count
  exact good_c (by decide +kernel) (good_a (good_a ((by decide +kernel)) gX12_clsall) gX12_marksOf_all)
set_option maxRecDepth 20000 in
theorem gX11_size_all : wsX11_size.all goodWord = true := by
  unfold wsX11_size
  exact good_c (by decide +kernel) (good_a (good_a (good_a (good_a (good_a (good_a (good_a (good_a ((by decide +kernel)) gX11_clsall) gX7_clsall) gX5_clsall) gX2_clsall) gX10_clsall) gX11_writes_all) gX7_bytes_all) gX5_length_all)
set_option maxRecDepth 20000 in
theorem gX12_size_all : wsX12_size.all goodWord = true := by
  unfold wsX12_size
  exact good_c (by decide +kernel) (good_a (good_a (good_a ((by decide +kernel)) gX12_clsall) gX12_isCode_all) gX12_write_all)
set_option maxRecDepth 20000 in
theorem gX11_byteOf_all : wsX11_byteOf.all goodWord = true := by
  unfold wsX11_byteOf
  exact good_c (by decide +kernel) (good_a (good_a (good_a (good_a (good_a (good_a (good_a (good_a ((by decide +kernel)) gX11_clsall) gX7_clsall) gX5_clsall) gX2_clsall) gX10_clsall) gX11_writes_all) gX7_bytes_all) gX5_get_all)
set_option maxRecDepth 20000 in
theorem gX12_byteOf_all : wsX12_byteOf.all goodWord = true := by
  unfold wsX12_byteOf
  exact good_c (by decide +kernel) (good_a (good_a (good_a ((by decide +kernel)) gX12_clsall) gX12_isCode_all) gX12_write_all)
set_option maxRecDepth 20000 in
theorem gX11_where_all : wsX11_where.all goodWord = true := by
  unfold wsX11_where
  exact good_c (by decide +kernel) (good_a ((by decide +kernel)) gX11_clsall)
set_option maxRecDepth 20000 in
theorem gX12_where_all : wsX12_where.all goodWord = true := by
  unfold wsX12_where
  exact good_c (by decide +kernel) (good_a ((by decide +kernel)) gX12_clsall)
set_option maxRecDepth 20000 in
theorem gX11_harm_all : wsX11_harm.all goodWord = true := by
  unfold wsX11_harm
  exact good_c (by decide +kernel) (good_a (good_a (good_a (good_a (good_a (good_a (good_a (good_a (good_a ((by decide +kernel)) gX11_clsall) gX7_clsall) gX5_clsall) gX2_clsall) gX10_clsall) gX0_clsall) gX1_clsall) gX11_passes_all) gX11_become_all)
set_option maxRecDepth 20000 in
theorem gX12_harm_all : wsX12_harm.all goodWord = true := by
  unfold wsX12_harm
  exact good_c (by decide +kernel) (good_a (good_a (good_a (good_a ((by decide +kernel)) gX12_clsall) gX12_isCode_all) gX12_does_all) gX12_become_all)
set_option maxRecDepth 20000 in
theorem gX11_rough_all : wsX11_rough.all goodWord = true := by
  unfold wsX11_rough
  exact good_c (by decide +kernel) (good_a (good_a (good_a (good_a (good_a (good_a (good_a (good_a (good_a (good_a (good_a ((by decide +kernel)) gX11_clsall) gX7_clsall) gX5_clsall) gX2_clsall) gX10_clsall) gX0_clsall) gX1_clsall) gX2_known_all) gX7_passRoughly_all) gX7_fault_all) gX11_become_all)
set_option maxRecDepth 20000 in
theorem gX12_rough_all : wsX12_rough.all goodWord = true := by
  unfold wsX12_rough
  exact good_c (by decide +kernel) (good_a (good_a (good_a (good_a (good_a ((by decide +kernel)) gX12_clsall) gX12_isCode_all) gX12_write_all) gX12_readAt_all) gX12_become_all)
set_option maxRecDepth 20000 in
theorem gX11_undo_all : wsX11_undo.all goodWord = true := by
  unfold wsX11_undo
  exact good_c (by decide +kernel) (good_a (good_a (good_a (good_a (good_a (good_a (good_a (good_a (good_a ((by decide +kernel)) gX11_clsall) gX7_clsall) gX5_clsall) gX2_clsall) gX10_clsall) gX0_clsall) gX1_clsall) gX11_passes_all) gX11_become_all)
set_option maxRecDepth 20000 in
theorem gX12_undo_all : wsX12_undo.all goodWord = true := by
  unfold wsX12_undo
  exact good_c (by decide +kernel) (good_a (good_a (good_a (good_a (good_a ((by decide +kernel)) gX12_clsall) gX12_isCode_all) gX12_takeText_all) gX12_undoes_all) gX12_become_all)
set_option maxRecDepth 20000 in
theorem gX11_safe_all : wsX11_safe.all goodWord = true := by
  unfold wsX11_safe
  exact good_c (by decide +kernel) (good_a (good_a (good_a (good_a (good_a ((by decide +kernel)) gX11_clsall) gX2_clsall) gX10_clsall) gX2_known_all) gX2_neverLost_all)
set_option maxRecDepth 20000 in
theorem gX12_safe_all : wsX12_safe.all goodWord = true := by
  unfold wsX12_safe
  exact good_c (by decide +kernel) (good_a (good_a (good_a ((by decide +kernel)) gX12_clsall) gX12_isCode_all) gX12_canCome_all)
set_option maxRecDepth 20000 in
theorem gX11_back_all : wsX11_back.all goodWord = true := by
  unfold wsX11_back
  exact good_c (by decide +kernel) (good_a (good_a (good_a (good_a (good_a (good_a (good_a ((by decide +kernel)) gX11_clsall) gX0_clsall) gX5_clsall) gX1_clsall) gX0_takeBack_all) gX1_forgetFreshness_all) gX0_length_all)
set_option maxRecDepth 20000 in
theorem gX12_back_all : wsX12_back.all goodWord = true := by
  unfold wsX12_back
  exact good_c (by decide +kernel) (good_a ((by decide +kernel)) gX12_clsall)
set_option maxRecDepth 20000 in
theorem gX11_list_all : wsX11_list.all goodWord = true := by
  unfold wsX11_list
  exact good_c (by decide +kernel) (good_a (good_a (good_a (good_a (good_a (good_a (good_a ((by decide +kernel)) gX11_clsall) gX4_clsall) gX1_clsall) gX2_known_all) gX4_tell_all) gX1_forgetFreshness_all) gX4_length_all)
set_option maxRecDepth 20000 in
theorem gX12_list_all : wsX12_list.all goodWord = true := by
  unfold wsX12_list
  exact good_c (by decide +kernel) (good_a (good_a ((by decide +kernel)) gX12_clsall) gX12_isCode_all)
set_option maxRecDepth 20000 in
theorem gX11_unlist_all : wsX11_unlist.all goodWord = true := by
  unfold wsX11_unlist
  exact good_c (by decide +kernel) (good_a (good_a (good_a (good_a (good_a (good_a ((by decide +kernel)) gX11_clsall) gX4_clsall) gX1_clsall) gX4_length_all) gX4_empty_all) gX1_forgetFreshness_all)
set_option maxRecDepth 20000 in
theorem gX12_unlist_all : wsX12_unlist.all goodWord = true := by
  unfold wsX12_unlist
  exact good_c (by decide +kernel) (good_a ((by decide +kernel)) gX12_clsall)
set_option maxRecDepth 20000 in
theorem gX11_rows_all : wsX11_rows.all goodWord = true := by
  unfold wsX11_rows
  exact good_c (by decide +kernel) (good_a (good_a (good_a (good_a (good_a (good_a (good_a (good_a (good_a (good_a ((by decide +kernel)) gX11_clsall) gX9_clsall) gX4_clsall) gX7_clsall) gX5_clsall) gX2_clsall) gX10_clsall) gX3_clsall) gX9_find_all) gX9_keepFound_all)
set_option maxRecDepth 20000 in
theorem gX12_rows_all : wsX12_rows.all goodWord = true := by
  unfold wsX12_rows
  exact good_c (by decide +kernel) (good_a (good_a (good_a (good_a ((by decide +kernel)) gX12_clsall) gX12_power_all) gX12_makes_all) gX12_costOf__all)
set_option maxRecDepth 20000 in
theorem gX11_row_all : wsX11_row.all goodWord = true := by
  unfold wsX11_row
  exact good_c (by decide +kernel) (good_a (good_a (good_a ((by decide +kernel)) gX11_clsall) gX9_clsall) gX9_told_all)
set_option maxRecDepth 20000 in
theorem gX12_row_all : wsX12_row.all goodWord = true := by
  unfold wsX12_row
  exact good_c (by decide +kernel) (good_a ((by decide +kernel)) gX12_clsall)
set_option maxRecDepth 20000 in
theorem gX11_cost_all : wsX11_cost.all goodWord = true := by
  unfold wsX11_cost
  exact good_c (by decide +kernel) (good_a (good_a (good_a (good_a (good_a (good_a ((by decide +kernel)) gX11_clsall) gX3_clsall) gX1_clsall) gX11_isLetter_all) gX3_tell_all) gX1_forgetFreshness_all)
set_option maxRecDepth 20000 in
theorem gX12_cost_all : wsX12_cost.all goodWord = true := by
  unfold wsX12_cost
  exact good_c (by decide +kernel) (good_a (good_a ((by decide +kernel)) gX12_clsall) gX12_isLetter_all)
set_option maxRecDepth 20000 in
theorem gX11_worth_all : wsX11_worth.all goodWord = true := by
  unfold wsX11_worth
  exact good_c (by decide +kernel) (good_a (good_a (good_a (good_a ((by decide +kernel)) gX11_clsall) gX5_clsall) gX3_clsall) gX3_ofText_all)
set_option maxRecDepth 20000 in
theorem gX12_worth_all : wsX12_worth.all goodWord = true := by
  unfold wsX12_worth
  exact good_c (by decide +kernel) (good_a (good_a ((by decide +kernel)) gX12_clsall) gX12_costOf__all)
set_option maxRecDepth 20000 in
theorem gX11_mend_all : wsX11_mend.all goodWord = true := by
  unfold wsX11_mend
  exact good_c (by decide +kernel) (good_a (good_a (good_a (good_a (good_a (good_a (good_a (good_a (good_a (good_a (good_a (good_a (good_a (good_a (good_a (good_a (good_a ((by decide +kernel)) gX11_clsall) gX9_clsall) gX4_clsall) gX7_clsall) gX5_clsall) gX2_clsall) gX10_clsall) gX3_clsall) gX0_clsall) gX1_clsall) gX9_find_all) gX9_cheapest_all) gX3_ofText_all) gX9_costAt_all) gX9_build_all) gX11_become_all) gX9_numberOf_all)
set_option maxRecDepth 20000 in
theorem gX12_mend_all : wsX12_mend.all goodWord = true := by
  unfold wsX12_mend
  exact good_c (by decide +kernel) (good_a (good_a (good_a (good_a (good_a ((by decide +kernel)) gX12_clsall) gX12_power_all) gX12_makes_all) gX12_costOf__all) gX12_become_all)
set_option maxRecDepth 20000 in
theorem gX11_parts_all : wsX11_parts.all goodWord = true := by
  unfold wsX11_parts
  exact good_c (by decide +kernel) (good_a (good_a (good_a (good_a (good_a (good_a (good_a (good_a (good_a (good_a (good_a (good_a (good_a (good_a (good_a (good_a ((by decide +kernel)) gX11_clsall) gX5_clsall) gX6_clsall) gX3_clsall) gX4_clsall) gX8_clsall) gX2_clsall) gX10_clsall) gX7_clsall) gX0_clsall) gX1_clsall) gX5_length_all) gX6_find_all) gX6_build_all) gX11_become_all) gX6_spans_all)
set_option maxRecDepth 20000 in
theorem gX12_parts_all : wsX12_parts.all goodWord = true := by
  unfold wsX12_parts
  exact good_c (by decide +kernel) (good_a (good_a (good_a (good_a ((by decide +kernel)) gX12_clsall) gX12_takeSpan_all) gX12_costOf__all) gX12_become_all)
set_option maxRecDepth 20000 in
theorem gX11_choices_all : wsX11_choices.all goodWord = true := by
  unfold wsX11_choices
  exact good_c (by decide +kernel) (good_a (good_a (good_a (good_a (good_a (good_a (good_a (good_a (good_a (good_a (good_a (good_a ((by decide +kernel)) gX11_clsall) gX5_clsall) gX1_clsall) gX2_clsall) gX10_clsall) gX3_clsall) gX8_clsall) gX11_marksOf_all) gX2_known_all) gX5_length_all) gX1_layOut_all) gX1_find_all)
set_option maxRecDepth 20000 in
theorem gX12_choices_all : wsX12_choices.all goodWord = true := by
  unfold wsX12_choices
  exact good_c (by decide +kernel) (good_a (good_a (good_a (good_a (good_a (good_a (good_a ((by decide +kernel)) gX12_clsall) gX12_marksOf_all) gX12_isCode_all) gX12_writeWith_all) gX12_isAlone_all) gX12_isChoice_all) gX12_costOf__all)
set_option maxRecDepth 20000 in
theorem gX11_choice_all : wsX11_choice.all goodWord = true := by
  unfold wsX11_choice
  exact good_c (by decide +kernel) (good_a (good_a (good_a ((by decide +kernel)) gX11_clsall) gX1_clsall) gX1_told_all)
set_option maxRecDepth 20000 in
theorem gX12_choice_all : wsX12_choice.all goodWord = true := by
  unfold wsX12_choice
  exact good_c (by decide +kernel) (good_a (good_a ((by decide +kernel)) gX12_clsall) gX12_isToldChoice_all)
set_option maxRecDepth 20000 in
theorem gX11_chosen_all : wsX11_chosen.all goodWord = true := by
  unfold wsX11_chosen
  exact good_c (by decide +kernel) (good_a (good_a (good_a (good_a (good_a (good_a (good_a (good_a (good_a (good_a ((by decide +kernel)) gX11_clsall) gX1_clsall) gX5_clsall) gX2_clsall) gX10_clsall) gX7_clsall) gX0_clsall) gX1_isFresh_all) gX1_build_all) gX11_become_all)
set_option maxRecDepth 20000 in
theorem gX12_chosen_all : wsX12_chosen.all goodWord = true := by
  unfold wsX12_chosen
  exact good_c (by decide +kernel) (good_a (good_a (good_a (good_a ((by decide +kernel)) gX12_clsall) gX12_isToldChoice_all) gX12_isChoice_all) gX12_become_all)
set_option maxRecDepth 20000 in
theorem gX12_at_all : wsX12_at.all goodWord = true := by
  unfold wsX12_at
  exact good_c (by decide +kernel) (good_a ((by decide +kernel)) gX12_clsall)
set_option maxRecDepth 20000 in
theorem gX11_init_all : wsX11_init.all goodWord = true := by
  unfold wsX11_init
  exact good_c (by decide +kernel) (good_a (good_a (good_a (good_a (good_a (good_a (good_a (good_a (good_a (good_a (good_a (good_a (good_a (good_a (good_a (good_a (good_a (good_a (good_a (good_a (good_a ((by decide +kernel)) gX2_clsall) gX7_clsall) gX4_clsall) gX3_clsall) gX5_clsall) gX11_clsall) gX0_clsall) gX9_clsall) gX6_clsall) gX1_clsall) gX10_clsall) gX8_clsall) gX2_init_all) gX7_init_all) gX4_init_all) gX3_init_all) gX5_init_all) gX0_init_all) gX9_init_all) gX6_init_all) gX1_init_all)
set_option maxRecDepth 20000 in
theorem gX12_init_all : wsX12_init.all goodWord = true := by
  unfold wsX12_init
  exact good_c (by decide +kernel) (good_a ((by decide +kernel)) gX12_clsall)

end
