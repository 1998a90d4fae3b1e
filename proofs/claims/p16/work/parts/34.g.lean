/-! 5s.chs -/
section
/-! the reference's row of choices: an entry goes in -/
def KPR (eH eG : Nat → Int32) (k hi : Int) : Prop := ∀ i q : Nat, q < 4 → ((i : Int) ≤ k → RA4 eG i q = RA4 eH i q) ∧ (k < i → (i : Int) ≤ hi → RA4 eG i q = RA4 eH (i - 1) q)
def KPI (eH eG : Nat → Int32) (k hi j : Int) : Prop := ∀ i q : Nat, q < 4 → ((i : Int) < k ∨ ((i : Int) = k ∧ j ≤ q) → RA4 eG i q = RA4 eH i q) ∧ (k < i ∨ ((i : Int) = k ∧ (q : Int) < j) → (i : Int) ≤ hi → RA4 eG i q = RA4 eH (i - 1) q)
theorem KPR_0 {eH : Nat → Int32} {k hi : Int} (h : k = hi) : KPR eH eH k hi := fun i q _ => ⟨fun _ => rfl, fun h1 h2 => by omega⟩
theorem KPI_0 {eH eG : Nat → Int32} {k hi j : Int} (h : KPR eH eG k hi) (hj : j = 0) : KPI eH eG k hi j := fun i q hq => ⟨fun w => (h i q hq).1 (by omega), fun w1 w2 => (h i q hq).2 (by omega) w2⟩
theorem KPI_s {eH eG eF : Nat → Int32} {hi : Int} {k j j' a c x : Int32} (h : KPI eH eG k.toInt hi j.toInt) (hk : 1 ≤ k.toInt) (hj : 0 ≤ j.toInt ∧ j.toInt < 4) (ha : a.toInt = 4 * k.toInt + j.toInt) (hc : c.toInt = 4 * k.toInt - 4 + j.toInt) (ex : x = eG c.toNatClampNeg) (eg : eF = upd eG a.toNatClampNeg x) (hj' : j'.toInt = j.toInt + 1) : KPI eH eF k.toInt hi j'.toInt := by
  have ca := v_clamp (x := a) (by omega)
  have cc := v_clamp (x := c) (by omega)
  intro i q hq
  have st : ¬ ((i : Int) = k.toInt ∧ (q : Int) = j.toInt) → RA4 eF i q = RA4 eG i q := fun w => by
    unfold RA4
    rw [eg, pk_un (by omega)]
  refine ⟨fun w => ?_, fun w1 w2 => ?_⟩
  · rw [st (by omega)]; exact (h i q hq).1 (by omega)
  · by_cases z : (i : Int) = k.toInt ∧ (q : Int) = j.toInt
    · have e1 : 4 * i + q = a.toNatClampNeg := by omega
      have e2 : 4 * (i - 1) + q = c.toNatClampNeg := by omega
      have q1 := (h (i - 1) q hq).1 (Or.inl (by omega))
      rw [← q1]
      unfold RA4
      rw [e1, e2, eg, pk_us, ex]
    · rw [st z]; exact (h i q hq).2 (by omega) w2
theorem KPI_e {eH eG : Nat → Int32} {k k' hi j : Int} (h : KPI eH eG k hi j) (hj : j = 4) (hk : k' = k - 1) : KPR eH eG k' hi := fun i q hq => ⟨fun w => (h i q hq).1 (by omega), fun w1 w2 => (h i q hq).2 (by omega) w2⟩
theorem rp_end {eH eG g0 g1 g2 g3 : Nat → Int32} {at_ a0 a1 a2 a3 x y z u : Int32} {k0 k1 : Nat} {hi : Int} {e : Nat → Int} (h : KPR eH eG at_.toInt hi) (hs : srtA k0 (RA4 eH)) (h0 : 0 ≤ at_.toInt) (hk : at_.toInt ≤ k0) (hk1 : (k1 : Int) ≤ hi + 1) (ha0 : a0.toInt = 4 * at_.toInt) (ha1 : a1.toInt = 4 * at_.toInt + 1) (ha2 : a2.toInt = 4 * at_.toInt + 2) (ha3 : a3.toInt = 4 * at_.toInt + 3) (e0 : g0 = upd eG a0.toNatClampNeg x) (e1 : g1 = upd g0 a1.toNatClampNeg y) (e2 : g2 = upd g1 a2.toNatClampNeg z) (e3 : g3 = upd g2 a3.toNatClampNeg u) (ex : x.toInt = e 0) (ey : y.toInt = e 1) (ez : z.toInt = e 2) (eu : u.toInt = e 3) (hbig : ∀ i : Nat, at_.toInt ≤ i → i < k0 → e 2 < RA4 eH i 2) (hsm : at_.toInt = 0 ∨ ∃ q : Nat, (q : Int) = at_.toInt - 1 ∧ RA4 eH q 2 ≤ e 2) : INSk k0 k1 (RA4 eH) e (RA4 g3) := by
  have c := v_clamp h0
  have c0 := v_clamp (x := a0) (by omega)
  have c1 := v_clamp (x := a1) (by omega)
  have c2 := v_clamp (x := a2) (by omega)
  have c3 := v_clamp (x := a3) (by omega)
  refine ⟨at_.toNatClampNeg, by omega, fun i hi1 => ?_, fun i h1 h2 => hbig i (by omega) h2, fun i hi1 k hk4 => ?_⟩
  · rcases hsm with w | ⟨q, q1, q2⟩
    · omega
    · by_cases w : i = q
      · rw [w]; exact q2
      · have := hs i q (by omega) (by omega)
        omega
  · by_cases w : i = at_.toNatClampNeg
    · subst w
      rw [if_neg (by omega), if_pos rfl]
      rcases rk4 hk4 with w | w | w | w <;> subst w
      · unfold RA4
        rw [e3, pk_un (by omega), e2, pk_un (by omega), e1, pk_un (by omega), e0, show 4 * at_.toNatClampNeg + 0 = a0.toNatClampNeg by omega, pk_us]
        exact ex
      · unfold RA4
        rw [e3, pk_un (by omega), e2, pk_un (by omega), e1, show 4 * at_.toNatClampNeg + 1 = a1.toNatClampNeg by omega, pk_us]
        exact ey
      · unfold RA4
        rw [e3, pk_un (by omega), e2, show 4 * at_.toNatClampNeg + 2 = a2.toNatClampNeg by omega, pk_us]
        exact ez
      · unfold RA4
        rw [e3, show 4 * at_.toNatClampNeg + 3 = a3.toNatClampNeg by omega, pk_us]
        exact eu
    · have q : RA4 g3 i k = RA4 eG i k := by
        unfold RA4
        rw [e3, pk_un (by omega), e2, pk_un (by omega), e1, pk_un (by omega), e0, pk_un (by omega)]
      rw [q]
      by_cases c4 : i < at_.toNatClampNeg
      · rw [if_pos c4]; exact (h i k hk4).1 (by omega)
      · rw [if_neg c4, if_neg w]; exact (h i k hk4).2 (by omega) (by omega)
theorem rp_full {eH : Nat → Int32} {e : Nat → Int} {k1 : Nat} (hs : srtA 200 (RA4 eH)) (h : RA4 eH 199 2 ≤ e 2) (hk : k1 = 200) : INSk 200 k1 (RA4 eH) e (RA4 eH) := by
  subst hk
  refine ⟨200, Nat.le_refl _, fun i hi => ?_, fun i h1 h2 => by omega, fun i hi k hk => by rw [if_pos hi]⟩
  by_cases w : i = 199
  · rw [w]; exact h
  · have := hs i 199 (by omega) (by omega)
    omega
theorem m2_v (n : Nat) : (m200 n : Int) = if (n : Int) < 200 then (n : Int) else 200 := by
  unfold m200
  by_cases w : n < 200
  · rw [if_pos w, if_pos (by omega)]
  · rw [if_neg w, if_neg (by omega)]; rfl
/-- a valid pair stands in the row of all -/
theorem vx_y {a b o w : Int32} {L4 L5 f eW : Nat → Int32} {Bf : Int32 → Int32} {T : Int32 → Int32 → Int32} {n c mk t : Nat} {x : Int} (h : VCH a b L4 L5 Bf n f o.toInt w.toInt c eW) (ho : 0 ≤ o.toInt ∧ o.toInt ≤ 255) (hw : 0 ≤ w.toInt ∧ w.toInt ≤ 255) (ht : (mk = 1 ∧ (t : Int) = o.toInt ∧ w.toInt = 0) ∨ (mk = 2 ∧ (t : Int) = 256 * o.toInt + w.toInt)) (h1 : alF b o L4 L5 = -1) (h2 : mk = 2 → alF b w L4 L5 = -1) (hx : x = cT T c eW) : VX a b L4 L5 Bf T n f mk t (ent (if mk = 1 then -1 else o.toInt) (if mk = 1 then o.toInt else w.toInt) x c) := ⟨o, w, ho, hw, ht, h1, h2, c, eW, h, fun k hk => by rw [hx]⟩
theorem vch_no {a b o w : Int32} {L4 L5 f : Nat → Int32} {Bf : Int32 → Int32} {T : Int32 → Int32 → Int32} {n mk t : Nat} (ht : (mk = 1 ∧ (t : Int) = o.toInt ∧ w.toInt = 0) ∨ (mk = 2 ∧ (t : Int) = 256 * o.toInt + w.toInt)) (ho : 0 ≤ o.toInt ∧ o.toInt ≤ 255) (hw : 0 ≤ w.toInt ∧ w.toInt ≤ 255) (h : ¬ alF b o L4 L5 = -1 ∨ (mk = 2 ∧ ¬ alF b w L4 L5 = -1) ∨ ∀ c f', ¬ VCH a b L4 L5 Bf n f o.toInt w.toInt c f') : ∀ e, ¬ VX a b L4 L5 Bf T n f mk t e := by
  rintro e ⟨o', w', r1, r2, r3, r4, r5, c, f', r6, r7⟩
  have eo : o' = o := v_inj (by omega)
  have ew : w' = w := v_inj (by omega)
  subst eo
  subst ew
  rcases h with h | ⟨h1, h2⟩ | h
  · exact h r4
  · exact h2 (r5 h1)
  · exact h _ _ r6
theorem ic_1 {r zk a b : Int32} {L4 L5 f eW : Nat → Int32} {Bf : Int32 → Int32} {n : Nat} {v1 v2 : Int} (h : F_ic r zk eW a b L4 L5 Bf n f v1 v2) (hr : ¬ r.toInt = 0) : ∃ c : Nat, zk.toInt = c ∧ VCH a b L4 L5 Bf n f v1 v2 c eW := h.elim (fun z => z.2) (fun z => absurd z.1 hr)
theorem ic_0 {r zk a b : Int32} {L4 L5 f eW : Nat → Int32} {Bf : Int32 → Int32} {n : Nat} {v1 v2 : Int} (h : F_ic r zk eW a b L4 L5 Bf n f v1 v2) (hr : r.toInt = 0) : ∀ c f', ¬ VCH a b L4 L5 Bf n f v1 v2 c f' := h.elim (fun z => by have := z.1; omega) (fun z => z.2)

theorem ent1 {o w p x c : Int} : ent (if (1 : Nat) = 1 then -1 else p) (if (1 : Nat) = 1 then o else w) x c 0 = o ∧ ent (if (1 : Nat) = 1 then -1 else p) (if (1 : Nat) = 1 then o else w) x c 1 = -1 ∧ ent (if (1 : Nat) = 1 then -1 else p) (if (1 : Nat) = 1 then o else w) x c 2 = x ∧ ent (if (1 : Nat) = 1 then -1 else p) (if (1 : Nat) = 1 then o else w) x c 3 = c := ⟨rfl, rfl, rfl, rfl⟩
theorem ent2 {o w x c : Int} (h : 0 ≤ o) : ent (if (2 : Nat) = 1 then -1 else o) (if (2 : Nat) = 1 then o else w) x c 0 = o ∧ ent (if (2 : Nat) = 1 then -1 else o) (if (2 : Nat) = 1 then o else w) x c 1 = w ∧ ent (if (2 : Nat) = 1 then -1 else o) (if (2 : Nat) = 1 then o else w) x c 2 = x ∧ ent (if (2 : Nat) = 1 then -1 else o) (if (2 : Nat) = 1 then o else w) x c 3 = c := by
  refine ⟨?_, ?_, rfl, rfl⟩
  · show (if o = -1 then w else o) = o
    rw [if_neg (by omega)]
  · show (if o = -1 then -1 else w) = w
    rw [if_neg (by omega)]

theorem cb_a1 {r : Int32} {P : Prop} (h : (r.toInt = 0 ∧ P) ∨ (¬ r.toInt = 0 ∧ ¬ P)) (h1 : ¬ r.toInt = 0) : ¬ P := h.elim (fun z => absurd z.1 h1) (fun z => z.2)
theorem cb_a0 {r : Int32} {P : Prop} (h : (r.toInt = 0 ∧ P) ∨ (¬ r.toInt = 0 ∧ ¬ P)) (h0 : r.toInt = 0) : P := h.elim (fun z => z.2) (fun z => absurd h0 z.1)
theorem fld_e {V : Nat → (Nat → Int) → Prop} {s n0 n n' : Nat} {B A : Nat → Nat → Int} {j j' : Nat} (h : FLD V s n0 B j n A) (e : j = j') (en : n = n') : FLD V s n0 B j' n' A := by
  subst e
  subst en
  exact h

theorem ww_no {r b m : Int32} {Bf : Int32 → Int32} {f g : Nat → Int32} {v1 v2 : Int} {n : Nat} (h : F_ww r b Bf f v1 v2 n m g) (hr : r.toInt = 0) : ¬ ∀ i, i < n → ¬ EV b Bf f 0 0 i = [] := by
  rcases h with h | ⟨_, i, h1, h2⟩
  · have := h.1
    omega
  · exact fun w => w i h1 (EV_e h2)
theorem ww_ev {r b m : Int32} {Bf : Int32 → Int32} {f g : Nat → Int32} {v1 v2 : Int} {n : Nat} (h : F_ww r b Bf f v1 v2 n m g) (hr : ¬ r.toInt = 0) : ∀ i, i < n → ¬ EV b Bf f 0 0 i = [] := fun i hi e => ((ww_1 h hr).2 i hi).1 (EV_e e)

set_option maxHeartbeats 40000000 in
set_option maxRecDepth 100000 in
theorem f_X12_choices (l : Launch) (dC : Nat → ClassId) (dI : Nat → Nat → Nat) (cI cS : ClassId) (sz : Nat) (oM : Nat) (mT : Nat) (mS : Nat) (mX : Nat) (mL : Nat) (mB : Nat) (mD : Nat) (m1 : Nat) (m2 : Nat) (mR : Nat) (x1 : Nat) (x2 : Nat) (x3 : Nat) (mH : Nat) (mY : Nat) (mE : Nat) (mW : Nat) (mO : Nat) (y1 : Nat) (y2 : Nat) (y3 : Nat) (y4 : Nat) (mZ : Nat) (zt : Int32) (zp : Int32) (zf : Int32) (zh : Int32) (zr : Int32) (zc : Int32) (zy : Int32) (za : Int32) (zb : Int32) (zs : Int32) (zq : Int32) (zw : Int32) (ze : Int32) (zn : Int32) (zm : Int32) (zl : Int32) (zk : Int32) (zd : Int32) (eY : Nat → Int32) (eB : Nat → Int32) (eL : Nat → Int32) (eE : Nat → Int32) (eW : Nat → Int32) (eH : Nat → Int32) (eS : Nat → Int32) (eX : Nat → Int32) (ec1 : Nat → Int32) (ec2 : Nat → Int32) (ec3 : Nat → Int32) (a : Int32) (b : Int32) (g_zt : 0 ≤ zt.toInt ∧ zt.toInt ≤ 900) (g_zp : 0 ≤ zp.toInt ∧ zp.toInt ≤ 20) (g_zf : 0 ≤ zf.toInt ∧ zf.toInt ≤ 19) (g_zh : 0 ≤ zh.toInt ∧ zh.toInt ≤ 6) (g_zr : 0 ≤ zr.toInt ∧ zr.toInt ≤ 258) (g_zc : 0 ≤ zc.toInt ∧ zc.toInt ≤ 300) (g_zy : 0 ≤ zy.toInt ∧ zy.toInt ≤ 65536) (g_za : 0 ≤ za.toInt ∧ za.toInt ≤ 5) (g_zb : 0 ≤ zb.toInt ∧ zb.toInt ≤ 5) (g_zs : 0 ≤ zs.toInt ∧ zs.toInt ≤ 2000000) (g_zq : -1 ≤ zq.toInt ∧ zq.toInt ≤ 2000000) (g_zn : 0 ≤ zn.toInt ∧ zn.toInt ≤ 2600) (g_zm : 0 ≤ zm.toInt ∧ zm.toInt ≤ 2600) (g_zk : 0 ≤ zk.toInt ∧ zk.toInt ≤ 300) (g_eY : rg 0 255 eY) (g_eB : rg (-1) 255 eB) (g_eL : rg (-1) 65535 eL) (g_eE : rg 0 65535 eE) (g_eW : rg 0 65535 eW) (g_eS : rg 0 300 eS) (g_eX : rg 0 65535 eX) (hxl : ∀ j : Nat, (j : Int) < (eS 0).toInt → isLz (eX j)) (hlb : LBr eL eB) (hlz : LZ eL) (hV : rg 0 200 ec3) (hzs : zs.toInt ≤ 1000000) : kMi l yX12_choices wsX12_choices ({ frames := 4, cells := 0, slots := 0, locals := 97 } : Room) [.ref oM, .int a, .int b] sz (dC, dI) vwCl [(cI, .int), (cS, .short)] [(oM, .inr (12, [.ref mT, .int zt, .ref mS, .ref mX, .int zp, .int zf, .ref mL, .ref mB, .ref mD, .ref m1, .ref m2, .int zh, .ref mR, .int zr, .ref x1, .ref x2, .ref x3, .int zc, .ref mH, .int zy, .int za, .int zb, .int zs, .int zq, .int zw, .int ze, .ref mY, .int zn, .ref mE, .int zm, .int zl, .ref mW, .int zk, .ref mO, .int zd, .ref y1, .ref y2, .ref y3, .ref y4, .ref mZ])), (mY, .inl (cI, 2600, .inl eY)), (mB, .inl (cS, 131072, .inl eB)), (mL, .inl (cI, 512, .inl eL)), (mE, .inl (cI, 2600, .inl eE)), (mW, .inl (cI, 300, .inl eW)), (mH, .inl (cI, 800, .inl eH)), (mS, .inl (cI, 21, .inl eS)), (mX, .inl (cI, 6300, .inl eX)), (x1, .inl (cI, 300, .inl ec1)), (x2, .inl (cI, 300, .inl ec2)), (x3, .inl (cI, 300, .inl ec3))] (fun _ => True) 0 0 (fun (A : Nat → Prop) (r : Int32) (hh9 : Heap) => ∀ PZ9 : Prop, (∀ (ze' : Int32) (zw' : Int32) (zy' : Int32) (za' : Int32) (zb' : Int32) (zq' : Int32) (eH' : Nat → Int32) (zn' : Int32) (eY' : Nat → Int32) (zd' : Int32) (zm' : Int32) (zl' : Int32) (eE' : Nat → Int32) (zk' : Int32) (eW' : Nat → Int32), kPD (dC, dI) vwCl A [(oM, .inr (12, [.ref mT, .int zt, .ref mS, .ref mX, .int zp, .int zf, .ref mL, .ref mB, .ref mD, .ref m1, .ref m2, .int zh, .ref mR, .int zr, .ref x1, .ref x2, .ref x3, .int zc, .ref mH, .int zy', .int za', .int zb', .int zs, .int zq', .int zw', .int ze', .ref mY, .int zn', .ref mE, .int zm', .int zl', .ref mW, .int zk', .ref mO, .int zd', .ref y1, .ref y2, .ref y3, .ref y4, .ref mZ])), (mY, .inl (cI, 2600, .inl eY')), (mB, .inl (cS, 131072, .inl eB)), (mL, .inl (cI, 512, .inl eL)), (mE, .inl (cI, 2600, .inl eE')), (mW, .inl (cI, 300, .inl eW')), (mH, .inl (cI, 800, .inl eH')), (mS, .inl (cI, 21, .inl eS)), (mX, .inl (cI, 6300, .inl eX)), (x1, .inl (cI, 300, .inl ec1)), (x2, .inl (cI, 300, .inl ec2)), (x3, .inl (cI, 300, .inl ec3))] hh9 → (0 ≤ zy'.toInt ∧ zy'.toInt ≤ 65536) → (0 ≤ za'.toInt ∧ za'.toInt ≤ 5) → (0 ≤ zb'.toInt ∧ zb'.toInt ≤ 5) → (-1 ≤ zq'.toInt ∧ zq'.toInt ≤ 2000000) → (0 ≤ zn'.toInt ∧ zn'.toInt ≤ 2600) → (rg 0 255 eY') → (0 ≤ zm'.toInt ∧ zm'.toInt ≤ 2600) → (rg 0 65535 eE') → (0 ≤ zk'.toInt ∧ zk'.toInt ≤ 300) → (rg 0 65535 eW') → (F_chx (okd a ∧ okd b ∧ (mkB eX (eS 0).toInt.toNat = 1 ∨ mkB eX (eS 0).toInt.toNat = 2) ∧ (eS 0).toInt ≤ 100 ∧ ∀ i, i < (eS 0).toInt.toNat → ¬ EV b (Br b eB) eX 0 0 i = []) r (FLD (VX a b (fun k => eL k) (fun k => eL (256 + k)) (Br b eB) (tcR zc.toInt ec1 ec2 ec3) (eS 0).toInt.toNat eX (mkB eX (eS 0).toInt.toNat)) 0 0 (fun _ _ => (0 : Int)) (if mkB eX (eS 0).toInt.toNat = 1 then 256 else 65536) r.toNatClampNeg (RA4 eH') ∧ 0 ≤ r.toInt ∧ r.toInt ≤ 65536 ∧ zy' = r ∧ za' = a ∧ zb' = b ∧ zq' = zs) (zy' = zy ∧ za' = za ∧ zb' = zb ∧ zq' = zq ∧ eH' = eH)) → PZ9) → PZ9) := by
  refine kMi_of (cc := cX12_choices) (maxL := 11) (ret := (some .int)) (lv := [(0, .ref oM), (1, .int a), (2, .int b)]) (by decide +kernel) rfl rfl (Nat.le_of_ble_eq_true rfl) ?_
  intro p e s m below meth c A QQ ls hx hb hr hts hml hown hlocks hA hQQ hK hX hP hD hS hl
  have hown : s.vm.findClass RX12 = some m.cls := hown
  have hcf := k_cf hx hb hml hown hts
  have in_X12 : ∀ w ∈ wsX120, w ∈ wsX12_choices := fun _ h => List.mem_cons_of_mem _ (List.mem_append_left _ (List.mem_append_left _ (List.mem_append_left _ (List.mem_append_left _ (List.mem_append_left _ (List.mem_append_left _ (List.mem_append_right _ (h))))))))
  replace g_zt := hid g_zt
  replace g_zp := hid g_zp
  replace g_zf := hid g_zf
  replace g_zh := hid g_zh
  replace g_zr := hid g_zr
  replace g_zn := hid g_zn
  have z0 : (0 : Int32).toInt = 0 := rfl
  have z1 : (1 : Int32).toInt = 1 := rfl
  have zm1 : (-1 : Int32).toInt = -1 := rfl
  have gS0 := g_eS 0
  have z200 : (200 : Int32).toInt = 200 := rfl
  refine lv_aload_n hx hb dX12_choices_0 rfl (lv_at hl 0 rfl) ?_
  refine lv_iconst (v := 0) hx hb dX12_choices_1 (by decide) ?_
  refine va_put (D := (dC, dI)) (ci := 12) (v := .int 0) (ty := .int) (C := RX12) (T := TX12) (N := 40) hx hb hts in_X12 tyX12 tyX12_ok nmX12 hown hK hP hD hS 0 rfl rfl 25 (Nat.le_of_ble_eq_true rfl) (hts (.fieldLink RX12 85 "TextMenderModel" "thrown" "I") (List.mem_of_getElem? (i := 1) rfl)) (fun _ h9 => h9) rfl (tyX12_ok 25 (Nat.le_of_ble_eq_true rfl)) rfl rfl (Nat.le_of_ble_eq_true rfl) dX12_choices_2 (kW (wn := [(oM, .inr (12, [.ref mT, .int zt, .ref mS, .ref mX, .int zp, .int zf, .ref mL, .ref mB, .ref mD, .ref m1, .ref m2, .int zh, .ref mR, .int zr, .ref x1, .ref x2, .ref x3, .int zc, .ref mH, .int zy, .int za, .int zb, .int zs, .int zq, .int zw, .int 0, .ref mY, .int zn, .ref mE, .int zm, .int zl, .ref mW, .int zk, .ref mO, .int zd, .ref y1, .ref y2, .ref y3, .ref y4, .ref mZ])), (mY, .inl (cI, 2600, .inl eY)), (mB, .inl (cS, 131072, .inl eB)), (mL, .inl (cI, 512, .inl eL)), (mE, .inl (cI, 2600, .inl eE)), (mW, .inl (cI, 300, .inl eW)), (mH, .inl (cI, 800, .inl eH)), (mS, .inl (cI, 21, .inl eS)), (mX, .inl (cI, 6300, .inl eX)), (x1, .inl (cI, 300, .inl ec1)), (x2, .inl (cI, 300, .inl ec2)), (x3, .inl (cI, 300, .inl ec3))]) rfl (fun H locs hPn hDn hSn => ?_))
  clear hP hD hS
  have hP := hPn
  have hD := hDn
  have hS := hSn
  clear hPn hDn hSn
  refine lv_aload_n hx hb dX12_choices_5 rfl (lv_at hl 0 rfl) ?_
  refine lv_iconst (v := (-1)) hx hb dX12_choices_6 (by decide) ?_
  refine va_put (D := (dC, dI)) (ci := 12) (v := .int (-1)) (ty := .int) (C := RX12) (T := TX12) (N := 40) hx hb hts in_X12 tyX12 tyX12_ok nmX12 hown hK hP hD hS 0 rfl rfl 24 (Nat.le_of_ble_eq_true rfl) (hts (.fieldLink RX12 55 "TextMenderModel" "where" "I") (List.mem_of_getElem? (i := 2) rfl)) (fun _ h9 => h9) rfl (tyX12_ok 24 (Nat.le_of_ble_eq_true rfl)) rfl rfl (Nat.le_of_ble_eq_true rfl) dX12_choices_7 (kW (wn := [(oM, .inr (12, [.ref mT, .int zt, .ref mS, .ref mX, .int zp, .int zf, .ref mL, .ref mB, .ref mD, .ref m1, .ref m2, .int zh, .ref mR, .int zr, .ref x1, .ref x2, .ref x3, .int zc, .ref mH, .int zy, .int za, .int zb, .int zs, .int zq, .int (-1), .int 0, .ref mY, .int zn, .ref mE, .int zm, .int zl, .ref mW, .int zk, .ref mO, .int zd, .ref y1, .ref y2, .ref y3, .ref y4, .ref mZ])), (mY, .inl (cI, 2600, .inl eY)), (mB, .inl (cS, 131072, .inl eB)), (mL, .inl (cI, 512, .inl eL)), (mE, .inl (cI, 2600, .inl eE)), (mW, .inl (cI, 300, .inl eW)), (mH, .inl (cI, 800, .inl eH)), (mS, .inl (cI, 21, .inl eS)), (mX, .inl (cI, 6300, .inl eX)), (x1, .inl (cI, 300, .inl ec1)), (x2, .inl (cI, 300, .inl ec2)), (x3, .inl (cI, 300, .inl ec3))]) rfl (fun H locs hPn hDn hSn => ?_))
  clear hP hD hS
  have hP := hPn
  have hD := hDn
  have hS := hSn
  clear hPn hDn hSn
  refine lv_aload_n hx hb dX12_choices_10 rfl (lv_at hl 0 rfl) ?_
  refine kV_i (rest := []) (q0 := 0) (ci := 12) hcf (f_X12_marksOf l dC dI cI cS H.size oM mT mS mX mL mB mD m1 m2 mR x1 x2 x3 mH mY mE mW mO y1 y2 y3 y4 mZ zt zp zf zh zr zc zy za zb zs zq (-1) 0 zn zm zl zk zd eS eX (g_zt) (g_zp) (g_zf) (g_zh) (g_zr) (g_zc) (g_zy) (g_za) (g_zb) (g_zs) (g_zq) (g_zn) (g_zm) (g_zk) (g_eS) (g_eX)) kc_X12_marksOf gX12_choices_X12_marksOf rfl rfl rfl ⟨Nat.le_of_ble_eq_true rfl, Nat.le_of_ble_eq_true rfl⟩ kX_t hK hP hD hS hA (posT mk_185 0) (posF mk_185 0) (kC_of mk_185 rfl rfl) (by decide +kernel) rfl rfl rfl hl rfl (Nat.le_of_ble_eq_true rfl) dX12_choices_11 ⟨Nat.le_of_ble_eq_true rfl, Nat.le_of_ble_eq_true rfl⟩ (fun r_1 H locs hB hJ hSn => ?_)
  refine hB _ (fun hPD9 hf1_0 hf1_1 => ?_)
  clear hB
  obtain ⟨hPn, hDn⟩ := kJi (m := mk_185) hJ rfl hPD9.1 hPD9.2 (wn := [(oM, .inr (12, [.ref mT, .int zt, .ref mS, .ref mX, .int zp, .int zf, .ref mL, .ref mB, .ref mD, .ref m1, .ref m2, .int zh, .ref mR, .int zr, .ref x1, .ref x2, .ref x3, .int zc, .ref mH, .int zy, .int za, .int zb, .int zs, .int zq, .int (-1), .int 0, .ref mY, .int zn, .ref mE, .int zm, .int zl, .ref mW, .int zk, .ref mO, .int zd, .ref y1, .ref y2, .ref y3, .ref y4, .ref mZ])), (mY, .inl (cI, 2600, .inl eY)), (mB, .inl (cS, 131072, .inl eB)), (mL, .inl (cI, 512, .inl eL)), (mE, .inl (cI, 2600, .inl eE)), (mW, .inl (cI, 300, .inl eW)), (mH, .inl (cI, 800, .inl eH)), (mS, .inl (cI, 21, .inl eS)), (mX, .inl (cI, 6300, .inl eX)), (x1, .inl (cI, 300, .inl ec1)), (x2, .inl (cI, 300, .inl ec2)), (x3, .inl (cI, 300, .inl ec3))]) rfl
  clear hP hD hS hJ hPD9
  have hP := hPn
  have hD := hDn
  have hS := hSn
  clear hPn hDn hSn
  have hmk9 := hf1_1
  refine lv_istore_n (lv' := [(3, .int r_1), (0, .ref oM), (1, .int a), (2, .int b)]) hx hb dX12_choices_14 rfl hl (by decide) rfl (fun ls hl => ?_)
  refine lv_iload_n hx hb dX12_choices_15 rfl (lv_at hl 0 rfl) ?_
  refine lv_iconst (v := 1) hx hb dX12_choices_16 (by decide) ?_
  refine lv_icmp_lt (tgt := 50) hx hb dX12_choices_17 (by decide) (fun c_2 => ?_) (fun c_2 => ?_)
  · have tc_2 : r_1.toInt < 1 := v_lt c_2
    refine lv_iconst (v := (-1)) hx hb dX12_choices_50 (by decide) ?_
    exact kl_i (v := (-1)) hQQ hx hb hr hlocks hS dX12_choices_51 (fun PZ9 kZ9 => kZ9 0 (-1) zy za zb zq eH zn eY zd zm zl eE zk eW (⟨hP, hD⟩) (g_zy) (g_za) (g_zb) (g_zq) (g_zn) (g_eY) (g_zm) (g_eE) (g_zk) (g_eW) (Or.inr ⟨fun h9 => by have h1 := h9.1; have h2 := h9.2.1; have h3 := h9.2.2.1; have h4 := h9.2.2.2.1; unfold okd at h1 h2; omega, rfl, ⟨rfl, rfl, rfl, rfl, rfl⟩⟩))
  · have tc_2 : 1 ≤ r_1.toInt := v_nlt c_2
    refine lv_iload_n hx hb dX12_choices_20 rfl (lv_at hl 0 rfl) ?_
    refine lv_iconst (v := 2) hx hb dX12_choices_21 (by decide) ?_
    refine lv_icmp_gt (tgt := 50) hx hb dX12_choices_22 (by decide) (fun c_3 => ?_) (fun c_3 => ?_)
    · have tc_3 : 2 < r_1.toInt := v_lt c_3
      refine lv_iconst (v := (-1)) hx hb dX12_choices_50 (by decide) ?_
      exact kl_i (v := (-1)) hQQ hx hb hr hlocks hS dX12_choices_51 (fun PZ9 kZ9 => kZ9 0 (-1) zy za zb zq eH zn eY zd zm zl eE zk eW (⟨hP, hD⟩) (g_zy) (g_za) (g_zb) (g_zq) (g_zn) (g_eY) (g_zm) (g_eE) (g_zk) (g_eW) (Or.inr ⟨fun h9 => by have h1 := h9.1; have h2 := h9.2.1; have h3 := h9.2.2.1; have h4 := h9.2.2.2.1; unfold okd at h1 h2; omega, rfl, ⟨rfl, rfl, rfl, rfl, rfl⟩⟩))
    · have tc_3 : r_1.toInt ≤ 2 := v_nlt c_3
      refine lv_iload_n hx hb dX12_choices_25 rfl (lv_at hl 2 rfl) ?_
      refine kS_i (rest := []) hcf (m_X12_isCode l dC dI cI cS H.size a ) kc_X12_isCode gX12_choices_X12_isCode rfl rfl ⟨Nat.le_of_ble_eq_true rfl, Nat.le_of_ble_eq_true rfl⟩ kX_t hK hP hD hS hA (posT mk_186 0) (posF mk_186 0) (kC_of mk_186 rfl rfl) (by decide +kernel) rfl hl rfl (Nat.le_of_ble_eq_true rfl) dX12_choices_26 ⟨Nat.le_of_ble_eq_true rfl, Nat.le_of_ble_eq_true rfl⟩ (fun r_4 H locs hB hJ hSn => ?_)
      refine hB _ (fun hPD9 hf4_0 hf4_1 => ?_)
      clear hB
      obtain ⟨hPn, hDn⟩ := kJi (m := mk_186) hJ rfl hPD9.1 hPD9.2 (wn := [(oM, .inr (12, [.ref mT, .int zt, .ref mS, .ref mX, .int zp, .int zf, .ref mL, .ref mB, .ref mD, .ref m1, .ref m2, .int zh, .ref mR, .int zr, .ref x1, .ref x2, .ref x3, .int zc, .ref mH, .int zy, .int za, .int zb, .int zs, .int zq, .int (-1), .int 0, .ref mY, .int zn, .ref mE, .int zm, .int zl, .ref mW, .int zk, .ref mO, .int zd, .ref y1, .ref y2, .ref y3, .ref y4, .ref mZ])), (mY, .inl (cI, 2600, .inl eY)), (mB, .inl (cS, 131072, .inl eB)), (mL, .inl (cI, 512, .inl eL)), (mE, .inl (cI, 2600, .inl eE)), (mW, .inl (cI, 300, .inl eW)), (mH, .inl (cI, 800, .inl eH)), (mS, .inl (cI, 21, .inl eS)), (mX, .inl (cI, 6300, .inl eX)), (x1, .inl (cI, 300, .inl ec1)), (x2, .inl (cI, 300, .inl ec2)), (x3, .inl (cI, 300, .inl ec3))]) rfl
      clear hP hD hS hJ hPD9
      have hP := hPn
      have hD := hDn
      have hS := hSn
      clear hPn hDn hSn
      refine lv_if_eq (tgt := 50) hx hb dX12_choices_29 (by decide) (fun c_5 => ?_) (fun c_5 => ?_)
      · have tc_5 : r_4.toInt = 0 := v_eq c_5
        refine lv_iconst (v := (-1)) hx hb dX12_choices_50 (by decide) ?_
        exact kl_i (v := (-1)) hQQ hx hb hr hlocks hS dX12_choices_51 (fun PZ9 kZ9 => kZ9 0 (-1) zy za zb zq eH zn eY zd zm zl eE zk eW (⟨hP, hD⟩) (g_zy) (g_za) (g_zb) (g_zq) (g_zn) (g_eY) (g_zm) (g_eE) (g_zk) (g_eW) (Or.inr ⟨fun h9 => by have h1 := h9.1; have h2 := h9.2.1; have h3 := h9.2.2.1; have h4 := h9.2.2.2.1; unfold okd at h1 h2; omega, rfl, ⟨rfl, rfl, rfl, rfl, rfl⟩⟩))
      · have tc_5 : ¬ r_4.toInt = 0 := v_ne c_5
        refine lv_iload_n hx hb dX12_choices_32 rfl (lv_at hl 3 rfl) ?_
        refine kS_i (rest := []) hcf (m_X12_isCode l dC dI cI cS H.size b ) kc_X12_isCode gX12_choices_X12_isCode rfl rfl ⟨Nat.le_of_ble_eq_true rfl, Nat.le_of_ble_eq_true rfl⟩ kX_t hK hP hD hS hA (posT mk_186 0) (posF mk_186 0) (kC_of mk_186 rfl rfl) (by decide +kernel) rfl hl rfl (Nat.le_of_ble_eq_true rfl) dX12_choices_33 ⟨Nat.le_of_ble_eq_true rfl, Nat.le_of_ble_eq_true rfl⟩ (fun r_6 H locs hB hJ hSn => ?_)
        refine hB _ (fun hPD9 hf6_0 hf6_1 => ?_)
        clear hB
        obtain ⟨hPn, hDn⟩ := kJi (m := mk_186) hJ rfl hPD9.1 hPD9.2 (wn := [(oM, .inr (12, [.ref mT, .int zt, .ref mS, .ref mX, .int zp, .int zf, .ref mL, .ref mB, .ref mD, .ref m1, .ref m2, .int zh, .ref mR, .int zr, .ref x1, .ref x2, .ref x3, .int zc, .ref mH, .int zy, .int za, .int zb, .int zs, .int zq, .int (-1), .int 0, .ref mY, .int zn, .ref mE, .int zm, .int zl, .ref mW, .int zk, .ref mO, .int zd, .ref y1, .ref y2, .ref y3, .ref y4, .ref mZ])), (mY, .inl (cI, 2600, .inl eY)), (mB, .inl (cS, 131072, .inl eB)), (mL, .inl (cI, 512, .inl eL)), (mE, .inl (cI, 2600, .inl eE)), (mW, .inl (cI, 300, .inl eW)), (mH, .inl (cI, 800, .inl eH)), (mS, .inl (cI, 21, .inl eS)), (mX, .inl (cI, 6300, .inl eX)), (x1, .inl (cI, 300, .inl ec1)), (x2, .inl (cI, 300, .inl ec2)), (x3, .inl (cI, 300, .inl ec3))]) rfl
        clear hP hD hS hJ hPD9
        have hP := hPn
        have hD := hDn
        have hS := hSn
        clear hPn hDn hSn
        refine lv_if_eq (tgt := 50) hx hb dX12_choices_36 (by decide) (fun c_7 => ?_) (fun c_7 => ?_)
        · have tc_7 : r_6.toInt = 0 := v_eq c_7
          refine lv_iconst (v := (-1)) hx hb dX12_choices_50 (by decide) ?_
          exact kl_i (v := (-1)) hQQ hx hb hr hlocks hS dX12_choices_51 (fun PZ9 kZ9 => kZ9 0 (-1) zy za zb zq eH zn eY zd zm zl eE zk eW (⟨hP, hD⟩) (g_zy) (g_za) (g_zb) (g_zq) (g_zn) (g_eY) (g_zm) (g_eE) (g_zk) (g_eW) (Or.inr ⟨fun h9 => by have h1 := h9.1; have h2 := h9.2.1; have h3 := h9.2.2.1; have h4 := h9.2.2.2.1; unfold okd at h1 h2; omega, rfl, ⟨rfl, rfl, rfl, rfl, rfl⟩⟩))
        · have tc_7 : ¬ r_6.toInt = 0 := v_ne c_7
          refine lv_aload_n hx hb dX12_choices_39 rfl (lv_at hl 1 rfl) ?_
          refine va_get (D := (dC, dI)) (ci := 12) (v := .ref mS) (C := RX12) (T := TX12) (N := 40) hx hb hts in_X12 hown hK hP 0 rfl rfl 2 (Nat.le_of_ble_eq_true rfl) (hts (.fieldLink RX12 13 "TextMenderModel" "sizes" "[I") (List.mem_of_getElem? (i := 3) rfl)) (fun _ h9 => h9) rfl dX12_choices_40 ?_
          refine lv_iconst (v := 0) hx hb dX12_choices_43 (by decide) ?_
          refine va_iald hx hb hK hP 7 0 rfl rfl (by unfold vp_in; decide) dX12_choices_44 ?_
          refine lv_topi (fun x_8 ex_8 => ?_)
          have tx_8 : 0 ≤ x_8.toInt ∧ x_8.toInt ≤ 300 := rg_at g_eS ex_8
          have hs9 : x_8.toInt = (eS 0).toInt := by rw [ex_8]; rfl
          refine lv_bipush (v := 100) hx hb dX12_choices_45 (by decide) ?_
          refine lv_icmp_le (tgt := 52) hx hb dX12_choices_47 (by decide) (fun c_9 => ?_) (fun c_9 => ?_)
          · have tc_9 : x_8.toInt ≤ 100 := v_le c_9
            refine lv_aload_n hx hb dX12_choices_52 rfl (lv_at hl 1 rfl) ?_
            refine lv_iload_n hx hb dX12_choices_53 rfl (lv_at hl 3 rfl) ?_
            refine lv_iconst (v := 0) hx hb dX12_choices_54 (by decide) ?_
            refine lv_iconst (v := 0) hx hb dX12_choices_55 (by decide) ?_
            refine kV_i (rest := []) (q0 := 0) (ci := 12) hcf (f_X12_writeWith l dC dI cI cS H.size oM mT mS mX mL mB mD m1 m2 mR x1 x2 x3 mH mY mE mW mO y1 y2 y3 y4 mZ zt zp zf zh zr zc zy za zb zs zq (-1) 0 zn zm zl zk zd eY eB eS eX b 0 0 (g_zt) (g_zp) (g_zf) (g_zh) (g_zr) (g_zc) (g_zy) (g_za) (g_zb) (g_zs) (g_zq) (g_zn) (g_zm) (g_zk) (g_eY) (g_eB) (g_eS) (g_eX) (by omega) (by decide) (by decide) (Or.inr (by decide))) kc_X12_writeWith gX12_choices_X12_writeWith rfl rfl rfl ⟨Nat.le_of_ble_eq_true rfl, Nat.le_of_ble_eq_true rfl⟩ kX_t hK hP hD hS hA (posT mk_187 0) (posF mk_187 0) (kC_of mk_187 rfl rfl) (by decide +kernel) rfl rfl rfl hl rfl (Nat.le_of_ble_eq_true rfl) dX12_choices_56 ⟨Nat.le_of_ble_eq_true rfl, Nat.le_of_ble_eq_true rfl⟩ (fun r_10 H locs hB hJ hSn => ?_)
            refine hB _ (fun zn_10 eY_10 zl_10 hPD9 hf10_0 hf10_1 hf10_2 hf10_3 hf10_4 => ?_)
            clear hB
            obtain ⟨hPn, hDn⟩ := kJi (m := mk_187) hJ rfl hPD9.1 hPD9.2 (wn := [(oM, .inr (12, [.ref mT, .int zt, .ref mS, .ref mX, .int zp, .int zf, .ref mL, .ref mB, .ref mD, .ref m1, .ref m2, .int zh, .ref mR, .int zr, .ref x1, .ref x2, .ref x3, .int zc, .ref mH, .int zy, .int za, .int zb, .int zs, .int zq, .int (-1), .int 0, .ref mY, .int zn_10, .ref mE, .int zm, .int zl_10, .ref mW, .int zk, .ref mO, .int zd, .ref y1, .ref y2, .ref y3, .ref y4, .ref mZ])), (mY, .inl (cI, 2600, .inl eY_10)), (mB, .inl (cS, 131072, .inl eB)), (mL, .inl (cI, 512, .inl eL)), (mE, .inl (cI, 2600, .inl eE)), (mW, .inl (cI, 300, .inl eW)), (mH, .inl (cI, 800, .inl eH)), (mS, .inl (cI, 21, .inl eS)), (mX, .inl (cI, 6300, .inl eX)), (x1, .inl (cI, 300, .inl ec1)), (x2, .inl (cI, 300, .inl ec2)), (x3, .inl (cI, 300, .inl ec3))]) rfl
            clear hP hD hS hJ hPD9
            have hP := hPn
            have hD := hDn
            have hS := hSn
            clear hPn hDn hSn
            refine lv_if_ne (tgt := 72) hx hb dX12_choices_59 (by decide) (fun c_11 => ?_) (fun c_11 => ?_)
            · have tc_11 : ¬ r_10.toInt = 0 := v_ne c_11
              by_cases cs_12 : r_1.toInt = 1
              · have hmk8 : mkB eX (eS 0).toInt.toNat = 1 := by omega
                have hev9 := ww_ev hf10_4 (by omega)
                refine lv_iconst (v := 0) hx hb dX12_choices_72 (by decide) ?_
                refine lv_istore (lv' := [(4, .int 0), (3, .int r_1), (0, .ref oM), (1, .int a), (2, .int b)]) hx hb dX12_choices_73 hl (by decide) rfl (fun ls hl => ?_)
                refine lv_iconst (v := 0) hx hb dX12_choices_75 (by decide) ?_
                refine lv_istore (lv' := [(5, .int 0), (4, .int 0), (3, .int r_1), (0, .ref oM), (1, .int a), (2, .int b)]) hx hb dX12_choices_76 hl (by decide) rfl (fun ls hl => ?_)
                have LOOP_78 : ∀ (k_78 : Nat) (one : Int32) (n : Int32) (zna : Int32) (zda : Int32) (zma : Int32) (zla : Int32) (zka : Int32) (eYa : Nat → Int32) (eEa : Nat → Int32) (eWa : Nat → Int32) (eHa : Nat → Int32) (H : Heap) (locs : List Loc) (ls : Array Slot), MSd (256 - one.toInt : Int) k_78 → (0 ≤ one.toInt ∧ one.toInt ≤ 256) → (0 ≤ n.toInt ∧ n.toInt ≤ 65536) → (0 ≤ zna.toInt ∧ zna.toInt ≤ 2600) → (0 ≤ zma.toInt ∧ zma.toInt ≤ 2600) → (0 ≤ zka.toInt ∧ zka.toInt ≤ 300) → (rg 0 255 eYa) → (rg 0 65535 eEa) → (rg 0 65535 eWa) → (n.toInt ≤ 256 * one.toInt) → (FLD (VX a b (fun k => eL k) (fun k => eL (256 + k)) (Br b eB) (tcR zc.toInt ec1 ec2 ec3) (eS 0).toInt.toNat eX 1) 0 0 (fun _ _ => (0 : Int)) (one.toNatClampNeg) n.toNatClampNeg (RA4 eHa)) → va_P (dC, dI) vwCl [(oM, .inr (12, [.ref mT, .int zt, .ref mS, .ref mX, .int zp, .int zf, .ref mL, .ref mB, .ref mD, .ref m1, .ref m2, .int zh, .ref mR, .int zr, .ref x1, .ref x2, .ref x3, .int zc, .ref mH, .int zy, .int za, .int zb, .int zs, .int zq, .int (-1), .int 0, .ref mY, .int zna, .ref mE, .int zma, .int zla, .ref mW, .int zka, .ref mO, .int zda, .ref y1, .ref y2, .ref y3, .ref y4, .ref mZ])), (mY, .inl (cI, 2600, .inl eYa)), (mB, .inl (cS, 131072, .inl eB)), (mL, .inl (cI, 512, .inl eL)), (mE, .inl (cI, 2600, .inl eEa)), (mW, .inl (cI, 300, .inl eWa)), (mH, .inl (cI, 800, .inl eHa)), (mS, .inl (cI, 21, .inl eS)), (mX, .inl (cI, 6300, .inl eX)), (x1, .inl (cI, 300, .inl ec1)), (x2, .inl (cI, 300, .inl ec2)), (x3, .inl (cI, 300, .inl ec3))] H → va_D A [(oM, .inr (12, [.ref mT, .int zt, .ref mS, .ref mX, .int zp, .int zf, .ref mL, .ref mB, .ref mD, .ref m1, .ref m2, .int zh, .ref mR, .int zr, .ref x1, .ref x2, .ref x3, .int zc, .ref mH, .int zy, .int za, .int zb, .int zs, .int zq, .int (-1), .int 0, .ref mY, .int zna, .ref mE, .int zma, .int zla, .ref mW, .int zka, .ref mO, .int zda, .ref y1, .ref y2, .ref y3, .ref y4, .ref mZ])), (mY, .inl (cI, 2600, .inl eYa)), (mB, .inl (cS, 131072, .inl eB)), (mL, .inl (cI, 512, .inl eL)), (mE, .inl (cI, 2600, .inl eEa)), (mW, .inl (cI, 300, .inl eWa)), (mH, .inl (cI, 800, .inl eHa)), (mS, .inl (cI, 21, .inl eS)), (mX, .inl (cI, 6300, .inl eX)), (x1, .inl (cI, 300, .inl ec1)), (x2, .inl (cI, 300, .inl ec2)), (x3, .inl (cI, 300, .inl ec3))] → va_S A s.heap H locs → lv_has ls 11 [(5, .int one), (4, .int n), (3, .int r_1), (0, .ref oM), (1, .int a), (2, .int b)] → W p l e (headSpec wsX12_choices ({ frames := 4, cells := 0, slots := 0, locals := 97 } : Room)).room s m ([.ref oM, .int a, .int b] : List Value).toArray below meth c H locs 0 0 (MQ below QQ ([.ref oM, .int a, .int b] : List Value).toArray s 0 0 A) (F0 m 78 ls []) := by
                  clear hP hD hS hl
                  try (clear g_zm g_zk)
                  intro k_78
                  induction k_78 with
                  | zero =>
                    intro one n zna zda zma zla zka eYa eEa eWa eHa H locs ls hm_78 g_one g_n g_zna g_zma g_zka g_eYa g_eEa g_eWa hn1 hfl hP hD hS hl
                    exact ms_0 hm_78
                  | succ k_78 ih_78 =>
                    intro one n zna zda zma zla zka eYa eEa eWa eHa H locs ls hm_78 g_one g_n g_zna g_zma g_zka g_eYa g_eEa g_eWa hn1 hfl hP hD hS hl
                    refine lv_iload hx hb dX12_choices_78 (lv_at hl 0 rfl) ?_
                    refine lv_sipush (v := 256) hx hb dX12_choices_80 (by decide) ?_
                    refine lv_icmp_ge (tgt := 368) hx hb dX12_choices_83 (by decide) (fun c_13 => ?_) (fun c_13 => ?_)
                    · have tc_13 : 256 ≤ one.toInt := v_le c_13
                      refine lv_aload_n hx hb dX12_choices_368 rfl (lv_at hl 3 rfl) ?_
                      refine lv_iload hx hb dX12_choices_369 (lv_at hl 1 rfl) ?_
                      refine va_put (D := (dC, dI)) (ci := 12) (v := .int n) (ty := .int) (C := RX12) (T := TX12) (N := 40) hx hb hts in_X12 tyX12 tyX12_ok nmX12 hown hK hP hD hS 0 rfl rfl 19 (Nat.le_of_ble_eq_true rfl) (hts (.fieldLink RX12 213 "TextMenderModel" "choiceMany" "I") (List.mem_of_getElem? (i := 8) rfl)) (fun _ h9 => h9) rfl (tyX12_ok 19 (Nat.le_of_ble_eq_true rfl)) rfl rfl (Nat.le_of_ble_eq_true rfl) dX12_choices_371 (kW (wn := [(oM, .inr (12, [.ref mT, .int zt, .ref mS, .ref mX, .int zp, .int zf, .ref mL, .ref mB, .ref mD, .ref m1, .ref m2, .int zh, .ref mR, .int zr, .ref x1, .ref x2, .ref x3, .int zc, .ref mH, .int n, .int za, .int zb, .int zs, .int zq, .int (-1), .int 0, .ref mY, .int zna, .ref mE, .int zma, .int zla, .ref mW, .int zka, .ref mO, .int zda, .ref y1, .ref y2, .ref y3, .ref y4, .ref mZ])), (mY, .inl (cI, 2600, .inl eYa)), (mB, .inl (cS, 131072, .inl eB)), (mL, .inl (cI, 512, .inl eL)), (mE, .inl (cI, 2600, .inl eEa)), (mW, .inl (cI, 300, .inl eWa)), (mH, .inl (cI, 800, .inl eHa)), (mS, .inl (cI, 21, .inl eS)), (mX, .inl (cI, 6300, .inl eX)), (x1, .inl (cI, 300, .inl ec1)), (x2, .inl (cI, 300, .inl ec2)), (x3, .inl (cI, 300, .inl ec3))]) rfl (fun H locs hPn hDn hSn => ?_))
                      clear hP hD hS
                      have hP := hPn
                      have hD := hDn
                      have hS := hSn
                      clear hPn hDn hSn
                      refine lv_aload_n hx hb dX12_choices_374 rfl (lv_at hl 3 rfl) ?_
                      refine lv_iload_n hx hb dX12_choices_375 rfl (lv_at hl 4 rfl) ?_
                      refine va_put (D := (dC, dI)) (ci := 12) (v := .int a) (ty := .int) (C := RX12) (T := TX12) (N := 40) hx hb hts in_X12 tyX12 tyX12_ok nmX12 hown hK hP hD hS 0 rfl rfl 20 (Nat.le_of_ble_eq_true rfl) (hts (.fieldLink RX12 216 "TextMenderModel" "choiceA" "I") (List.mem_of_getElem? (i := 9) rfl)) (fun _ h9 => h9) rfl (tyX12_ok 20 (Nat.le_of_ble_eq_true rfl)) rfl rfl (Nat.le_of_ble_eq_true rfl) dX12_choices_376 (kW (wn := [(oM, .inr (12, [.ref mT, .int zt, .ref mS, .ref mX, .int zp, .int zf, .ref mL, .ref mB, .ref mD, .ref m1, .ref m2, .int zh, .ref mR, .int zr, .ref x1, .ref x2, .ref x3, .int zc, .ref mH, .int n, .int a, .int zb, .int zs, .int zq, .int (-1), .int 0, .ref mY, .int zna, .ref mE, .int zma, .int zla, .ref mW, .int zka, .ref mO, .int zda, .ref y1, .ref y2, .ref y3, .ref y4, .ref mZ])), (mY, .inl (cI, 2600, .inl eYa)), (mB, .inl (cS, 131072, .inl eB)), (mL, .inl (cI, 512, .inl eL)), (mE, .inl (cI, 2600, .inl eEa)), (mW, .inl (cI, 300, .inl eWa)), (mH, .inl (cI, 800, .inl eHa)), (mS, .inl (cI, 21, .inl eS)), (mX, .inl (cI, 6300, .inl eX)), (x1, .inl (cI, 300, .inl ec1)), (x2, .inl (cI, 300, .inl ec2)), (x3, .inl (cI, 300, .inl ec3))]) rfl (fun H locs hPn hDn hSn => ?_))
                      clear hP hD hS
                      have hP := hPn
                      have hD := hDn
                      have hS := hSn
                      clear hPn hDn hSn
                      refine lv_aload_n hx hb dX12_choices_379 rfl (lv_at hl 3 rfl) ?_
                      refine lv_iload_n hx hb dX12_choices_380 rfl (lv_at hl 5 rfl) ?_
                      refine va_put (D := (dC, dI)) (ci := 12) (v := .int b) (ty := .int) (C := RX12) (T := TX12) (N := 40) hx hb hts in_X12 tyX12 tyX12_ok nmX12 hown hK hP hD hS 0 rfl rfl 21 (Nat.le_of_ble_eq_true rfl) (hts (.fieldLink RX12 219 "TextMenderModel" "choiceB" "I") (List.mem_of_getElem? (i := 10) rfl)) (fun _ h9 => h9) rfl (tyX12_ok 21 (Nat.le_of_ble_eq_true rfl)) rfl rfl (Nat.le_of_ble_eq_true rfl) dX12_choices_381 (kW (wn := [(oM, .inr (12, [.ref mT, .int zt, .ref mS, .ref mX, .int zp, .int zf, .ref mL, .ref mB, .ref mD, .ref m1, .ref m2, .int zh, .ref mR, .int zr, .ref x1, .ref x2, .ref x3, .int zc, .ref mH, .int n, .int a, .int b, .int zs, .int zq, .int (-1), .int 0, .ref mY, .int zna, .ref mE, .int zma, .int zla, .ref mW, .int zka, .ref mO, .int zda, .ref y1, .ref y2, .ref y3, .ref y4, .ref mZ])), (mY, .inl (cI, 2600, .inl eYa)), (mB, .inl (cS, 131072, .inl eB)), (mL, .inl (cI, 512, .inl eL)), (mE, .inl (cI, 2600, .inl eEa)), (mW, .inl (cI, 300, .inl eWa)), (mH, .inl (cI, 800, .inl eHa)), (mS, .inl (cI, 21, .inl eS)), (mX, .inl (cI, 6300, .inl eX)), (x1, .inl (cI, 300, .inl ec1)), (x2, .inl (cI, 300, .inl ec2)), (x3, .inl (cI, 300, .inl ec3))]) rfl (fun H locs hPn hDn hSn => ?_))
                      clear hP hD hS
                      have hP := hPn
                      have hD := hDn
                      have hS := hSn
                      clear hPn hDn hSn
                      refine lv_aload_n hx hb dX12_choices_384 rfl (lv_at hl 3 rfl) ?_
                      refine lv_aload_n hx hb dX12_choices_385 rfl (lv_at hl 3 rfl) ?_
                      refine va_get (D := (dC, dI)) (ci := 12) (v := .int zs) (C := RX12) (T := TX12) (N := 40) hx hb hts in_X12 hown hK hP 0 rfl rfl 22 (Nat.le_of_ble_eq_true rfl) (hts (.fieldLink RX12 148 "TextMenderModel" "state" "I") (List.mem_of_getElem? (i := 11) rfl)) (fun _ h9 => h9) rfl dX12_choices_386 ?_
                      refine va_put (D := (dC, dI)) (ci := 12) (v := .int zs) (ty := .int) (C := RX12) (T := TX12) (N := 40) hx hb hts in_X12 tyX12 tyX12_ok nmX12 hown hK hP hD hS 0 rfl rfl 23 (Nat.le_of_ble_eq_true rfl) (hts (.fieldLink RX12 51 "TextMenderModel" "choiceState" "I") (List.mem_of_getElem? (i := 12) rfl)) (fun _ h9 => h9) rfl (tyX12_ok 23 (Nat.le_of_ble_eq_true rfl)) rfl rfl (Nat.le_of_ble_eq_true rfl) dX12_choices_389 (kW (wn := [(oM, .inr (12, [.ref mT, .int zt, .ref mS, .ref mX, .int zp, .int zf, .ref mL, .ref mB, .ref mD, .ref m1, .ref m2, .int zh, .ref mR, .int zr, .ref x1, .ref x2, .ref x3, .int zc, .ref mH, .int n, .int a, .int b, .int zs, .int zs, .int (-1), .int 0, .ref mY, .int zna, .ref mE, .int zma, .int zla, .ref mW, .int zka, .ref mO, .int zda, .ref y1, .ref y2, .ref y3, .ref y4, .ref mZ])), (mY, .inl (cI, 2600, .inl eYa)), (mB, .inl (cS, 131072, .inl eB)), (mL, .inl (cI, 512, .inl eL)), (mE, .inl (cI, 2600, .inl eEa)), (mW, .inl (cI, 300, .inl eWa)), (mH, .inl (cI, 800, .inl eHa)), (mS, .inl (cI, 21, .inl eS)), (mX, .inl (cI, 6300, .inl eX)), (x1, .inl (cI, 300, .inl ec1)), (x2, .inl (cI, 300, .inl ec2)), (x3, .inl (cI, 300, .inl ec3))]) rfl (fun H locs hPn hDn hSn => ?_))
                      clear hP hD hS
                      have hP := hPn
                      have hD := hDn
                      have hS := hSn
                      clear hPn hDn hSn
                      refine lv_iload hx hb dX12_choices_392 (lv_at hl 1 rfl) ?_
                      exact kl_i (v := n) hQQ hx hb hr hlocks hS dX12_choices_394 (fun PZ9 kZ9 => kZ9 0 (-1) n a b zs eHa zna eYa zda zma zla eEa zka eWa (⟨hP, hD⟩) (g_n) (by omega) (by omega) (v_rr g_zs (by decide) (by decide)) (g_zna) (g_eYa) (g_zma) (g_eEa) (g_zka) (g_eWa) (Or.inl ⟨⟨by unfold okd; omega, by unfold okd; omega, by omega, by omega, hev9⟩, (by rw [hmk8, if_pos rfl]; exact fld_e hfl (by have c8 := v_clamp (x := one) (by omega); omega) rfl), by omega, by omega, rfl, rfl, rfl, rfl⟩))
                    · have tc_13 : one.toInt < 256 := v_nle c_13
                      have c19 := v_clamp (x := one) (by omega)
                      refine lv_iconst (v := 0) hx hb dX12_choices_86 (by decide) ?_
                      refine lv_istore (lv' := [(6, .int 0), (5, .int one), (4, .int n), (3, .int r_1), (0, .ref oM), (1, .int a), (2, .int b)]) hx hb dX12_choices_87 hl (by decide) rfl (fun ls hl => ?_)
                      have LOOP_89 : ∀ (k_89 : Nat) (two : Int32) (n2 : Int32) (znb : Int32) (zdb : Int32) (zmb : Int32) (zlb : Int32) (zkb : Int32) (eYb : Nat → Int32) (eEb : Nat → Int32) (eWb : Nat → Int32) (eHb : Nat → Int32) (H : Heap) (locs : List Loc) (ls : Array Slot), MSd (256 - two.toInt : Int) k_89 → (0 ≤ two.toInt ∧ two.toInt ≤ 256) → (0 ≤ n2.toInt ∧ n2.toInt ≤ 65536) → (0 ≤ znb.toInt ∧ znb.toInt ≤ 2600) → (0 ≤ zmb.toInt ∧ zmb.toInt ≤ 2600) → (0 ≤ zkb.toInt ∧ zkb.toInt ≤ 300) → (rg 0 255 eYb) → (rg 0 65535 eEb) → (rg 0 65535 eWb) → (n2.toInt ≤ 256 * one.toInt + two.toInt ∧ two.toInt ≤ 1) → (FLD (VX a b (fun k => eL k) (fun k => eL (256 + k)) (Br b eB) (tcR zc.toInt ec1 ec2 ec3) (eS 0).toInt.toNat eX 1) 0 0 (fun _ _ => (0 : Int)) (one.toNatClampNeg + two.toNatClampNeg) n2.toNatClampNeg (RA4 eHb)) → va_P (dC, dI) vwCl [(oM, .inr (12, [.ref mT, .int zt, .ref mS, .ref mX, .int zp, .int zf, .ref mL, .ref mB, .ref mD, .ref m1, .ref m2, .int zh, .ref mR, .int zr, .ref x1, .ref x2, .ref x3, .int zc, .ref mH, .int zy, .int za, .int zb, .int zs, .int zq, .int (-1), .int 0, .ref mY, .int znb, .ref mE, .int zmb, .int zlb, .ref mW, .int zkb, .ref mO, .int zdb, .ref y1, .ref y2, .ref y3, .ref y4, .ref mZ])), (mY, .inl (cI, 2600, .inl eYb)), (mB, .inl (cS, 131072, .inl eB)), (mL, .inl (cI, 512, .inl eL)), (mE, .inl (cI, 2600, .inl eEb)), (mW, .inl (cI, 300, .inl eWb)), (mH, .inl (cI, 800, .inl eHb)), (mS, .inl (cI, 21, .inl eS)), (mX, .inl (cI, 6300, .inl eX)), (x1, .inl (cI, 300, .inl ec1)), (x2, .inl (cI, 300, .inl ec2)), (x3, .inl (cI, 300, .inl ec3))] H → va_D A [(oM, .inr (12, [.ref mT, .int zt, .ref mS, .ref mX, .int zp, .int zf, .ref mL, .ref mB, .ref mD, .ref m1, .ref m2, .int zh, .ref mR, .int zr, .ref x1, .ref x2, .ref x3, .int zc, .ref mH, .int zy, .int za, .int zb, .int zs, .int zq, .int (-1), .int 0, .ref mY, .int znb, .ref mE, .int zmb, .int zlb, .ref mW, .int zkb, .ref mO, .int zdb, .ref y1, .ref y2, .ref y3, .ref y4, .ref mZ])), (mY, .inl (cI, 2600, .inl eYb)), (mB, .inl (cS, 131072, .inl eB)), (mL, .inl (cI, 512, .inl eL)), (mE, .inl (cI, 2600, .inl eEb)), (mW, .inl (cI, 300, .inl eWb)), (mH, .inl (cI, 800, .inl eHb)), (mS, .inl (cI, 21, .inl eS)), (mX, .inl (cI, 6300, .inl eX)), (x1, .inl (cI, 300, .inl ec1)), (x2, .inl (cI, 300, .inl ec2)), (x3, .inl (cI, 300, .inl ec3))] → va_S A s.heap H locs → lv_has ls 11 [(6, .int two), (5, .int one), (4, .int n2), (3, .int r_1), (0, .ref oM), (1, .int a), (2, .int b)] → W p l e (headSpec wsX12_choices ({ frames := 4, cells := 0, slots := 0, locals := 97 } : Room)).room s m ([.ref oM, .int a, .int b] : List Value).toArray below meth c H locs 0 0 (MQ below QQ ([.ref oM, .int a, .int b] : List Value).toArray s 0 0 A) (F0 m 89 ls []) := by
                        clear hP hD hS hl
                        try (clear g_zna g_zma g_zka g_zm g_zk hzs)
                        intro k_89
                        induction k_89 with
                        | zero =>
                          intro two n2 znb zdb zmb zlb zkb eYb eEb eWb eHb H locs ls hm_89 g_two g_n2 g_znb g_zmb g_zkb g_eYb g_eEb g_eWb hn2 hfi hP hD hS hl
                          exact ms_0 hm_89
                        | succ k_89 ih_89 =>
                          intro two n2 znb zdb zmb zlb zkb eYb eEb eWb eHb H locs ls hm_89 g_two g_n2 g_znb g_zmb g_zkb g_eYb g_eEb g_eWb hn2 hfi hP hD hS hl
                          refine lv_iload hx hb dX12_choices_89 (lv_at hl 0 rfl) ?_
                          refine lv_iload_n hx hb dX12_choices_91 rfl (lv_at hl 3 rfl) ?_
                          refine lv_iconst (v := 1) hx hb dX12_choices_92 (by decide) ?_
                          refine lv_icmp_ne (tgt := 100) hx hb dX12_choices_93 (by decide) (fun c_14 => by exfalso; have tc_14 : ¬ r_1.toInt = 1 := v_ne c_14; omega) (fun c_14 => ?_)
                          have tc_14 : r_1.toInt = 1 := v_eq c_14
                          refine lv_iconst (v := 1) hx hb dX12_choices_96 (by decide) ?_
                          refine lv_goto (tgt := 103) hx hb dX12_choices_97 (by decide) ?_
                          refine lv_icmp_ge (tgt := 362) hx hb dX12_choices_103 (by decide) (fun c_15 => ?_) (fun c_15 => ?_)
                          · have tc_15 : 1 ≤ two.toInt := v_le c_15
                            obtain ⟨x_16, ex_16⟩ : ∃ y : Int32, y = one + 1 := ⟨_, rfl⟩
                            have tx_16 : x_16.toInt = one.toInt + 1 := v_addR (l2 := 1) (h2 := 1) ex_16 g_one (by decide) (by decide) (by decide)
                            refine lv_iinc (v := x_16) (lv' := [(5, .int x_16), (6, .int two), (4, .int n2), (3, .int r_1), (0, .ref oM), (1, .int a), (2, .int b)]) hx hb dX12_choices_362 hl (k := 1) rfl (by rw [ex_16]; rfl) (by decide) rfl (fun ls hl => ?_)
                            refine lv_goto (tgt := 78) hx hb dX12_choices_365 (by decide) ?_
                            exact ih_78 x_16 n2 znb zdb zmb zlb zkb eYb eEb eWb eHb _ _ _ (ms_lt hm_78 (by show ((256 - x_16.toInt : Int)) < 256 - one.toInt; omega) (by show (0 : Int) < 256 - one.toInt; omega)) (by show 0 ≤ x_16.toInt ∧ x_16.toInt ≤ 256; omega) (g_n2) (g_znb) (g_zmb) (g_zkb) (g_eYb) (g_eEb) (g_eWb) (by show n2.toInt ≤ 256 * x_16.toInt; omega) (fld_e hfi (by rw [ix_eq (x := x_16) (N := one.toNatClampNeg + 1) (by omega)]; have c29 := v_clamp (x := two) (by omega); omega) rfl) hP hD hS (lv_sub hl [0, 2, 3, 4, 5, 6] rfl)
                          · have tc_15 : two.toInt < 1 := v_nle c_15
                            have c29 := v_clamp (x := two) (by omega)
                            have cn29 := v_clamp (x := n2) (by omega)
                            refine lv_aload_n hx hb dX12_choices_106 rfl (lv_at hl 4 rfl) ?_
                            refine lv_iload_n hx hb dX12_choices_107 rfl (lv_at hl 6 rfl) ?_
                            refine lv_iload hx hb dX12_choices_108 (lv_at hl 1 rfl) ?_
                            refine kV_i (rest := []) (q0 := 0) (ci := 12) hcf (f_X12_isAlone l dC dI cI cS H.size oM mT mS mX mL mB mD m1 m2 mR x1 x2 x3 mH mY mE mW mO y1 y2 y3 y4 mZ zt zp zf zh zr zc zy za zb zs zq (-1) 0 znb zmb zlb zkb zdb eYb eL b one (g_zt) (g_zp) (g_zf) (g_zh) (g_zr) (g_zc) (g_zy) (g_za) (g_zb) (g_zs) (g_zq) (g_znb) (g_zmb) (g_zkb) (g_eYb) (g_eL) (by omega) (by omega)) kc_X12_isAlone gX12_choices_X12_isAlone rfl rfl rfl ⟨Nat.le_of_ble_eq_true rfl, Nat.le_of_ble_eq_true rfl⟩ kX_t hK hP hD hS hA (posT mk_190 0) (posF mk_190 0) (kC_of mk_190 rfl rfl) (by decide +kernel) rfl rfl rfl hl rfl (Nat.le_of_ble_eq_true rfl) dX12_choices_110 ⟨Nat.le_of_ble_eq_true rfl, Nat.le_of_ble_eq_true rfl⟩ (fun r_17 H locs hB hJ hSn => ?_)
                            refine hB _ (fun eY_17 zn_17 zd_17 hPD9 hf17_0 hf17_1 hf17_2 hf17_3 => ?_)
                            clear hB
                            obtain ⟨hPn, hDn⟩ := kJi (m := mk_190) hJ rfl hPD9.1 hPD9.2 (wn := [(oM, .inr (12, [.ref mT, .int zt, .ref mS, .ref mX, .int zp, .int zf, .ref mL, .ref mB, .ref mD, .ref m1, .ref m2, .int zh, .ref mR, .int zr, .ref x1, .ref x2, .ref x3, .int zc, .ref mH, .int zy, .int za, .int zb, .int zs, .int zq, .int (-1), .int 0, .ref mY, .int zn_17, .ref mE, .int zmb, .int zlb, .ref mW, .int zkb, .ref mO, .int zd_17, .ref y1, .ref y2, .ref y3, .ref y4, .ref mZ])), (mY, .inl (cI, 2600, .inl eY_17)), (mB, .inl (cS, 131072, .inl eB)), (mL, .inl (cI, 512, .inl eL)), (mE, .inl (cI, 2600, .inl eEb)), (mW, .inl (cI, 300, .inl eWb)), (mH, .inl (cI, 800, .inl eHb)), (mS, .inl (cI, 21, .inl eS)), (mX, .inl (cI, 6300, .inl eX)), (x1, .inl (cI, 300, .inl ec1)), (x2, .inl (cI, 300, .inl ec2)), (x3, .inl (cI, 300, .inl ec3))]) rfl
                            clear hP hD hS hJ hPD9
                            have hP := hPn
                            have hD := hDn
                            have hS := hSn
                            clear hPn hDn hSn
                            refine lv_if_ne (tgt := 356) hx hb dX12_choices_113 (by decide) (fun c_18 => ?_) (fun c_18 => ?_)
                            · have tc_18 : ¬ r_17.toInt = 0 := v_ne c_18
                              obtain ⟨x_19, ex_19⟩ : ∃ y : Int32, y = two + 1 := ⟨_, rfl⟩
                              have tx_19 : x_19.toInt = two.toInt + 1 := v_addR (l2 := 1) (h2 := 1) ex_19 g_two (by decide) (by decide) (by decide)
                              refine lv_iinc (v := x_19) (lv' := [(6, .int x_19), (5, .int one), (4, .int n2), (3, .int r_1), (0, .ref oM), (1, .int a), (2, .int b)]) hx hb dX12_choices_356 hl (k := 0) rfl (by rw [ex_19]; rfl) (by decide) rfl (fun ls hl => ?_)
                              refine lv_goto (tgt := 89) hx hb dX12_choices_359 (by decide) ?_
                              exact ih_89 x_19 n2 zn_17 zd_17 zmb zlb zkb eY_17 eEb eWb eHb _ _ _ (ms_lt hm_89 (by show ((256 - x_19.toInt : Int)) < 256 - two.toInt; omega) (by show (0 : Int) < 256 - two.toInt; omega)) (by show 0 ≤ x_19.toInt ∧ x_19.toInt ≤ 256; omega) (g_n2) (hf17_1) (g_zmb) (g_zkb) (hf17_0) (g_eEb) (g_eWb) (by show n2.toInt ≤ 256 * one.toInt + x_19.toInt ∧ x_19.toInt ≤ 1; omega) (fld_n hfi (by rw [Nat.zero_add]; exact vch_no (o := one) (w := two) (Or.inl ⟨rfl, by omega, by omega⟩) (by omega) (by omega) (Or.inl (cb_a1 hf17_3 (by omega)))) (by rw [ix_eq (x := x_19) (N := two.toNatClampNeg + 1) (by omega)]; omega)) hP hD hS (lv_sub hl [0, 1, 2, 3, 4, 5, 6] rfl)
                            · have tc_18 : r_17.toInt = 0 := v_eq c_18
                              have hal1 := cb_a0 hf17_3 (by omega)
                              refine lv_iload_n hx hb dX12_choices_116 rfl (lv_at hl 3 rfl) ?_
                              refine lv_iconst (v := 2) hx hb dX12_choices_117 (by decide) ?_
                              refine lv_icmp_ne (tgt := 131) hx hb dX12_choices_118 (by decide) (fun c_20 => ?_) (fun c_20 => by exfalso; have tc_20 : r_1.toInt = 2 := v_eq c_20; omega)
                              have tc_20 : ¬ r_1.toInt = 2 := v_ne c_20
                              skip
                              refine lv_aload_n hx hb dX12_choices_131 rfl (lv_at hl 4 rfl) ?_
                              refine lv_iload_n hx hb dX12_choices_132 rfl (lv_at hl 5 rfl) ?_
                              refine lv_iload_n hx hb dX12_choices_133 rfl (lv_at hl 6 rfl) ?_
                              refine lv_iload hx hb dX12_choices_134 (lv_at hl 1 rfl) ?_
                              refine lv_iload hx hb dX12_choices_136 (lv_at hl 0 rfl) ?_
                              refine kV_i (rest := []) (q0 := 0) (ci := 12) hcf (f_X12_isChoice l dC dI cI cS H.size oM mT mS mX mL mB mD m1 m2 mR x1 x2 x3 mH mY mE mW mO y1 y2 y3 y4 mZ zt zp zf zh zr zc zy za zb zs zq (-1) 0 zn_17 zmb zlb zkb zd_17 eY_17 eB eL eEb eWb eS eX a b one two (g_zt) (g_zp) (g_zf) (g_zh) (g_zr) (g_zc) (g_zy) (g_za) (g_zb) (g_zs) (g_zq) (hf17_1) (g_zmb) (g_zkb) (hf17_0) (g_eB) (g_eL) (g_eEb) (g_eWb) (g_eS) (g_eX) (by omega) (by omega) (by omega) (by omega) (Or.inr (by omega)) (hal1) (Or.inl (by omega)) (by omega) (by omega) (hxl) (hlb) (hlz)) kc_X12_isChoice gX12_choices_X12_isChoice rfl rfl rfl ⟨Nat.le_of_ble_eq_true rfl, Nat.le_of_ble_eq_true rfl⟩ kX_t hK hP hD hS hA (posT mk_188 0) (posF mk_188 0) (kC_of mk_188 rfl rfl) (by decide +kernel) rfl rfl rfl hl rfl (Nat.le_of_ble_eq_true rfl) dX12_choices_138 ⟨Nat.le_of_ble_eq_true rfl, Nat.le_of_ble_eq_true rfl⟩ (fun r_21 H locs hB hJ hSn => ?_)
                              refine hB _ (fun zn_21 eY_21 zd_21 zm_21 zl_21 eE_21 zk_21 eW_21 hPD9 hf21_0 hf21_1 hf21_2 hf21_3 hf21_4 hf21_5 hf21_6 hf21_7 => ?_)
                              clear hB
                              obtain ⟨hPn, hDn⟩ := kJi (m := mk_188) hJ rfl hPD9.1 hPD9.2 (wn := [(oM, .inr (12, [.ref mT, .int zt, .ref mS, .ref mX, .int zp, .int zf, .ref mL, .ref mB, .ref mD, .ref m1, .ref m2, .int zh, .ref mR, .int zr, .ref x1, .ref x2, .ref x3, .int zc, .ref mH, .int zy, .int za, .int zb, .int zs, .int zq, .int (-1), .int 0, .ref mY, .int zn_21, .ref mE, .int zm_21, .int zl_21, .ref mW, .int zk_21, .ref mO, .int zd_21, .ref y1, .ref y2, .ref y3, .ref y4, .ref mZ])), (mY, .inl (cI, 2600, .inl eY_21)), (mB, .inl (cS, 131072, .inl eB)), (mL, .inl (cI, 512, .inl eL)), (mE, .inl (cI, 2600, .inl eE_21)), (mW, .inl (cI, 300, .inl eW_21)), (mH, .inl (cI, 800, .inl eHb)), (mS, .inl (cI, 21, .inl eS)), (mX, .inl (cI, 6300, .inl eX)), (x1, .inl (cI, 300, .inl ec1)), (x2, .inl (cI, 300, .inl ec2)), (x3, .inl (cI, 300, .inl ec3))]) rfl
                              clear hP hD hS hJ hPD9
                              have hP := hPn
                              have hD := hDn
                              have hS := hSn
                              clear hPn hDn hSn
                              refine lv_if_ne (tgt := 147) hx hb dX12_choices_141 (by decide) (fun c_22 => ?_) (fun c_22 => ?_)
                              · have tc_22 : ¬ r_21.toInt = 0 := v_ne c_22
                                obtain ⟨cz9, hzk9, hv9⟩ := ic_1 hf21_7 (by omega)
                                refine lv_aload_n hx hb dX12_choices_147 rfl (lv_at hl 4 rfl) ?_
                                refine lv_aload_n hx hb dX12_choices_148 rfl (lv_at hl 4 rfl) ?_
                                refine va_get (D := (dC, dI)) (ci := 12) (v := .ref mW) (C := RX12) (T := TX12) (N := 40) hx hb hts in_X12 hown hK hP 0 rfl rfl 31 (Nat.le_of_ble_eq_true rfl) (hts (.fieldLink RX12 64 "TextMenderModel" "work" "[I") (List.mem_of_getElem? (i := 5) rfl)) (fun _ h9 => h9) rfl dX12_choices_149 ?_
                                refine lv_iconst (v := 0) hx hb dX12_choices_152 (by decide) ?_
                                refine lv_aload_n hx hb dX12_choices_153 rfl (lv_at hl 4 rfl) ?_
                                refine va_get (D := (dC, dI)) (ci := 12) (v := .int zk_21) (C := RX12) (T := TX12) (N := 40) hx hb hts in_X12 hown hK hP 0 rfl rfl 32 (Nat.le_of_ble_eq_true rfl) (hts (.fieldLink RX12 135 "TextMenderModel" "workMany" "I") (List.mem_of_getElem? (i := 6) rfl)) (fun _ h9 => h9) rfl dX12_choices_154 ?_
                                refine kV_i (rest := []) (q0 := 0) (ci := 12) hcf (f_X12_costOf_ l dC dI cI cS H.size oM mW mT mS mX mL mB mD m1 m2 mR x1 x2 x3 mH mY mE mW mO y1 y2 y3 y4 mZ 300 zt zp zf zh zr zc zy za zb zs zq (-1) 0 zn_21 zm_21 zl_21 zk_21 zd_21 ec1 ec2 ec3 eW_21 0 zk_21 (g_zt) (g_zp) (g_zf) (g_zh) (g_zr) (g_zc) (g_zy) (g_za) (g_zb) (g_zs) (g_zq) (hf21_0) (hf21_2) (hf21_4) (by decide) (hf21_4) (by omega) (by omega) (hV) (prg_of hf21_5)) kc_X12_costOf_ gX12_choices_X12_costOf_ rfl rfl rfl ⟨Nat.le_of_ble_eq_true rfl, Nat.le_of_ble_eq_true rfl⟩ kX_t hK hP hD hS hA ([0, 2, 3, 4, 1].filterMap (fun j => (posT mk_189 0)[j]?)) (posF mk_189 0) (kCp (ws := [(oM, .inr (12, [.ref mT, .int zt, .ref mS, .ref mX, .int zp, .int zf, .ref mL, .ref mB, .ref mD, .ref m1, .ref m2, .int zh, .ref mR, .int zr, .ref x1, .ref x2, .ref x3, .int zc, .ref mH, .int zy, .int za, .int zb, .int zs, .int zq, .int (-1), .int 0, .ref mY, .int zn_21, .ref mE, .int zm_21, .int zl_21, .ref mW, .int zk_21, .ref mO, .int zd_21, .ref y1, .ref y2, .ref y3, .ref y4, .ref mZ])), (mW, .inl (cI, 300, .inl eW_21)), (x1, .inl (cI, 300, .inl ec1)), (x2, .inl (cI, 300, .inl ec2)), (x3, .inl (cI, 300, .inl ec3))]) (kC_of mk_189 rfl rfl) rfl) (by decide +kernel) rfl rfl rfl hl rfl (Nat.le_of_ble_eq_true rfl) dX12_choices_157 ⟨Nat.le_of_ble_eq_true rfl, Nat.le_of_ble_eq_true rfl⟩ (fun r_23 H locs hB hJ hSn => ?_)
                                refine hB _ (fun hPD9 hf23_0 hf23_1 => ?_)
                                clear hB
                                obtain ⟨hPn, hDn⟩ := kJm (m := mk_189) hJ rfl hPD9.1 hPD9.2 [0, 4, 1, 2, 3] (by decide +kernel) (ws := [(oM, .inr (12, [.ref mT, .int zt, .ref mS, .ref mX, .int zp, .int zf, .ref mL, .ref mB, .ref mD, .ref m1, .ref m2, .int zh, .ref mR, .int zr, .ref x1, .ref x2, .ref x3, .int zc, .ref mH, .int zy, .int za, .int zb, .int zs, .int zq, .int (-1), .int 0, .ref mY, .int zn_21, .ref mE, .int zm_21, .int zl_21, .ref mW, .int zk_21, .ref mO, .int zd_21, .ref y1, .ref y2, .ref y3, .ref y4, .ref mZ])), (mW, .inl (cI, 300, .inl eW_21)), (x1, .inl (cI, 300, .inl ec1)), (x2, .inl (cI, 300, .inl ec2)), (x3, .inl (cI, 300, .inl ec3))]) rfl (wn := [(oM, .inr (12, [.ref mT, .int zt, .ref mS, .ref mX, .int zp, .int zf, .ref mL, .ref mB, .ref mD, .ref m1, .ref m2, .int zh, .ref mR, .int zr, .ref x1, .ref x2, .ref x3, .int zc, .ref mH, .int zy, .int za, .int zb, .int zs, .int zq, .int (-1), .int 0, .ref mY, .int zn_21, .ref mE, .int zm_21, .int zl_21, .ref mW, .int zk_21, .ref mO, .int zd_21, .ref y1, .ref y2, .ref y3, .ref y4, .ref mZ])), (mY, .inl (cI, 2600, .inl eY_21)), (mB, .inl (cS, 131072, .inl eB)), (mL, .inl (cI, 512, .inl eL)), (mE, .inl (cI, 2600, .inl eE_21)), (mW, .inl (cI, 300, .inl eW_21)), (mH, .inl (cI, 800, .inl eHb)), (mS, .inl (cI, 21, .inl eS)), (mX, .inl (cI, 6300, .inl eX)), (x1, .inl (cI, 300, .inl ec1)), (x2, .inl (cI, 300, .inl ec2)), (x3, .inl (cI, 300, .inl ec3))]) rfl
                                clear hP hD hS hJ hPD9
                                have hP := hPn
                                have hD := hDn
                                have hS := hSn
                                clear hPn hDn hSn
                                have hcc9 : r_23.toInt = cT (tcR zc.toInt ec1 ec2 ec3) cz9 eW_21 := by rw [← hzk9]; exact hf23_1
                                have hsr9 : srtA (m200 n2.toNatClampNeg) (RA4 eHb) := FLD_s (fun i j h1 h2 => absurd h2 (Nat.not_lt_zero _)) _ _ _ hfi
                                refine lv_istore (lv' := [(7, .int r_23), (6, .int two), (5, .int one), (4, .int n2), (3, .int r_1), (0, .ref oM), (1, .int a), (2, .int b)]) hx hb dX12_choices_160 hl (by decide) rfl (fun ls hl => ?_)
                                have JOIN_j207 : ∀ (at_ : Int32) (H : Heap) (locs : List Loc) (ls : Array Slot), (0 ≤ at_.toInt ∧ at_.toInt ≤ 200) → (at_.toInt ≤ n2.toInt) → (∀ i : Nat, at_.toInt ≤ i → i < m200 n2.toNatClampNeg → r_23.toInt < RA4 eHb i 2) → (at_.toInt = 0 ∨ ∃ q : Nat, (q : Int) = at_.toInt - 1 ∧ RA4 eHb q 2 ≤ r_23.toInt) → va_P (dC, dI) vwCl [(oM, .inr (12, [.ref mT, .int zt, .ref mS, .ref mX, .int zp, .int zf, .ref mL, .ref mB, .ref mD, .ref m1, .ref m2, .int zh, .ref mR, .int zr, .ref x1, .ref x2, .ref x3, .int zc, .ref mH, .int zy, .int za, .int zb, .int zs, .int zq, .int (-1), .int 0, .ref mY, .int zn_21, .ref mE, .int zm_21, .int zl_21, .ref mW, .int zk_21, .ref mO, .int zd_21, .ref y1, .ref y2, .ref y3, .ref y4, .ref mZ])), (mY, .inl (cI, 2600, .inl eY_21)), (mB, .inl (cS, 131072, .inl eB)), (mL, .inl (cI, 512, .inl eL)), (mE, .inl (cI, 2600, .inl eE_21)), (mW, .inl (cI, 300, .inl eW_21)), (mH, .inl (cI, 800, .inl eHb)), (mS, .inl (cI, 21, .inl eS)), (mX, .inl (cI, 6300, .inl eX)), (x1, .inl (cI, 300, .inl ec1)), (x2, .inl (cI, 300, .inl ec2)), (x3, .inl (cI, 300, .inl ec3))] H → va_D A [(oM, .inr (12, [.ref mT, .int zt, .ref mS, .ref mX, .int zp, .int zf, .ref mL, .ref mB, .ref mD, .ref m1, .ref m2, .int zh, .ref mR, .int zr, .ref x1, .ref x2, .ref x3, .int zc, .ref mH, .int zy, .int za, .int zb, .int zs, .int zq, .int (-1), .int 0, .ref mY, .int zn_21, .ref mE, .int zm_21, .int zl_21, .ref mW, .int zk_21, .ref mO, .int zd_21, .ref y1, .ref y2, .ref y3, .ref y4, .ref mZ])), (mY, .inl (cI, 2600, .inl eY_21)), (mB, .inl (cS, 131072, .inl eB)), (mL, .inl (cI, 512, .inl eL)), (mE, .inl (cI, 2600, .inl eE_21)), (mW, .inl (cI, 300, .inl eW_21)), (mH, .inl (cI, 800, .inl eHb)), (mS, .inl (cI, 21, .inl eS)), (mX, .inl (cI, 6300, .inl eX)), (x1, .inl (cI, 300, .inl ec1)), (x2, .inl (cI, 300, .inl ec2)), (x3, .inl (cI, 300, .inl ec3))] → va_S A s.heap H locs → lv_has ls 11 [(7, .int r_23), (6, .int two), (5, .int one), (4, .int n2), (3, .int r_1), (0, .ref oM), (1, .int a), (2, .int b), (8, .int at_)] → W p l e (headSpec wsX12_choices ({ frames := 4, cells := 0, slots := 0, locals := 97 } : Room)).room s m ([.ref oM, .int a, .int b] : List Value).toArray below meth c H locs 0 0 (MQ below QQ ([.ref oM, .int a, .int b] : List Value).toArray s 0 0 A) (F0 m 207 ls []) := by
                                  clear hP hD hS hl
                                  try (clear hf17_1 g_znb g_zmb g_zkb g_zna g_zma g_zka g_zy g_za g_zb g_zs g_zq g_zm g_zk hzs)
                                  intro at_ H locs ls g_at_ hat hbj hsj hP hD hS hl
                                  obtain ⟨x_24, ex_24⟩ : ∃ y : Int32, y = n2 + 1 := ⟨_, rfl⟩
                                  have tx_24 : x_24.toInt = n2.toInt + 1 := v_addR (l2 := 1) (h2 := 1) ex_24 g_n2 (by decide) (by decide) (by decide)
                                  refine lv_iinc (v := x_24) (lv' := [(4, .int x_24), (7, .int r_23), (6, .int two), (5, .int one), (3, .int r_1), (0, .ref oM), (1, .int a), (2, .int b), (8, .int at_)]) hx hb dX12_choices_207 hl (k := 3) rfl (by rw [ex_24]; rfl) (by decide) rfl (fun ls hl => ?_)
                                  refine lv_iload hx hb dX12_choices_210 (lv_at hl 8 rfl) ?_
                                  refine lv_sipush (v := 200) hx hb dX12_choices_212 (by decide) ?_
                                  refine lv_icmp_ne (tgt := 221) hx hb dX12_choices_215 (by decide) (fun c_25 => ?_) (fun c_25 => ?_)
                                  · have tc_25 : ¬ at_.toInt = 200 := v_ne c_25
                                    refine lv_iload hx hb dX12_choices_221 (lv_at hl 0 rfl) ?_
                                    refine lv_sipush (v := 200) hx hb dX12_choices_223 (by decide) ?_
                                    refine lv_icmp_ge (tgt := 234) hx hb dX12_choices_226 (by decide) (fun c_26 => ?_) (fun c_26 => ?_)
                                    · have tc_26 : 200 ≤ x_24.toInt := v_le c_26
                                      refine lv_sipush (v := 200) hx hb dX12_choices_234 (by decide) ?_
                                      refine lv_iconst (v := 1) hx hb dX12_choices_237 (by decide) ?_
                                      refine lv_isub hx hb dX12_choices_238 ?_
                                      refine k_i (y := 199) (by decide) ?_
                                      refine lv_istore (lv' := [(9, .int 199), (4, .int x_24), (7, .int r_23), (6, .int two), (5, .int one), (3, .int r_1), (0, .ref oM), (1, .int a), (2, .int b), (8, .int at_)]) hx hb dX12_choices_239 hl (by decide) rfl (fun ls hl => ?_)
                                      have hhi9 : (m200 (n2.toNatClampNeg + 1) : Int) ≤ 199 + 1 := by have q9 := m200_l (n2.toNatClampNeg + 1); omega
                                      have hmat9 : at_.toInt ≤ (m200 n2.toNatClampNeg : Int) := by have q9 := m2_v n2.toNatClampNeg; by_cases z9 : (n2.toNatClampNeg : Int) < 200 <;> (first | rw [if_pos z9] at q9 | rw [if_neg z9] at q9) <;> omega
                                      have LOOP_241 : ∀ (k_241 : Nat) (k : Int32) (eHc : Nat → Int32) (H : Heap) (locs : List Loc) (ls : Array Slot), MSd (k.toInt - at_.toInt : Int) k_241 → (0 ≤ k.toInt ∧ k.toInt ≤ 199) → (at_.toInt ≤ k.toInt) → (k.toInt ≤ 199) → (KPR eHb eHc k.toInt (199)) → va_P (dC, dI) vwCl [(oM, .inr (12, [.ref mT, .int zt, .ref mS, .ref mX, .int zp, .int zf, .ref mL, .ref mB, .ref mD, .ref m1, .ref m2, .int zh, .ref mR, .int zr, .ref x1, .ref x2, .ref x3, .int zc, .ref mH, .int zy, .int za, .int zb, .int zs, .int zq, .int (-1), .int 0, .ref mY, .int zn_21, .ref mE, .int zm_21, .int zl_21, .ref mW, .int zk_21, .ref mO, .int zd_21, .ref y1, .ref y2, .ref y3, .ref y4, .ref mZ])), (mY, .inl (cI, 2600, .inl eY_21)), (mB, .inl (cS, 131072, .inl eB)), (mL, .inl (cI, 512, .inl eL)), (mE, .inl (cI, 2600, .inl eE_21)), (mW, .inl (cI, 300, .inl eW_21)), (mH, .inl (cI, 800, .inl eHc)), (mS, .inl (cI, 21, .inl eS)), (mX, .inl (cI, 6300, .inl eX)), (x1, .inl (cI, 300, .inl ec1)), (x2, .inl (cI, 300, .inl ec2)), (x3, .inl (cI, 300, .inl ec3))] H → va_D A [(oM, .inr (12, [.ref mT, .int zt, .ref mS, .ref mX, .int zp, .int zf, .ref mL, .ref mB, .ref mD, .ref m1, .ref m2, .int zh, .ref mR, .int zr, .ref x1, .ref x2, .ref x3, .int zc, .ref mH, .int zy, .int za, .int zb, .int zs, .int zq, .int (-1), .int 0, .ref mY, .int zn_21, .ref mE, .int zm_21, .int zl_21, .ref mW, .int zk_21, .ref mO, .int zd_21, .ref y1, .ref y2, .ref y3, .ref y4, .ref mZ])), (mY, .inl (cI, 2600, .inl eY_21)), (mB, .inl (cS, 131072, .inl eB)), (mL, .inl (cI, 512, .inl eL)), (mE, .inl (cI, 2600, .inl eE_21)), (mW, .inl (cI, 300, .inl eW_21)), (mH, .inl (cI, 800, .inl eHc)), (mS, .inl (cI, 21, .inl eS)), (mX, .inl (cI, 6300, .inl eX)), (x1, .inl (cI, 300, .inl ec1)), (x2, .inl (cI, 300, .inl ec2)), (x3, .inl (cI, 300, .inl ec3))] → va_S A s.heap H locs → lv_has ls 11 [(9, .int k), (4, .int x_24), (7, .int r_23), (6, .int two), (5, .int one), (3, .int r_1), (0, .ref oM), (1, .int a), (2, .int b), (8, .int at_)] → W p l e (headSpec wsX12_choices ({ frames := 4, cells := 0, slots := 0, locals := 97 } : Room)).room s m ([.ref oM, .int a, .int b] : List Value).toArray below meth c H locs 0 0 (MQ below QQ ([.ref oM, .int a, .int b] : List Value).toArray s 0 0 A) (F0 m 241 ls []) := by
                                        clear hP hD hS hl
                                        try (clear hf17_1 g_znb g_zmb g_zkb g_zna g_zma g_zka g_zy g_za g_zb g_zs g_zq g_zm g_zk hzs)
                                        intro k_241
                                        induction k_241 with
                                        | zero =>
                                          intro k eHc H locs ls hm_241 g_k hka hkh hkr hP hD hS hl
                                          exact ms_0 hm_241
                                        | succ k_241 ih_241 =>
                                          intro k eHc H locs ls hm_241 g_k hka hkh hkr hP hD hS hl
                                          refine lv_iload hx hb dX12_choices_241 (lv_at hl 0 rfl) ?_
                                          refine lv_iload hx hb dX12_choices_243 (lv_at hl 9 rfl) ?_
                                          refine lv_icmp_le (tgt := 295) hx hb dX12_choices_245 (by decide) (fun c_27 => ?_) (fun c_27 => ?_)
                                          · have tc_27 : k.toInt ≤ at_.toInt := v_le c_27
                                            have hkr : KPR eHb eHc at_.toInt _ := (show k.toInt = at_.toInt by omega) ▸ hkr
                                            refine lv_aload_n hx hb dX12_choices_295 rfl (lv_at hl 6 rfl) ?_
                                            refine va_get (D := (dC, dI)) (ci := 12) (v := .ref mH) (C := RX12) (T := TX12) (N := 40) hx hb hts in_X12 hown hK hP 0 rfl rfl 18 (Nat.le_of_ble_eq_true rfl) (hts (.fieldLink RX12 48 "TextMenderModel" "choices" "[I") (List.mem_of_getElem? (i := 7) rfl)) (fun _ h9 => h9) rfl dX12_choices_296 ?_
                                            refine lv_iconst (v := 4) hx hb dX12_choices_299 (by decide) ?_
                                            refine lv_iload hx hb dX12_choices_300 (lv_at hl 9 rfl) ?_
                                            refine lv_imul hx hb dX12_choices_302 ?_
                                            refine lv_topi (fun x_28 ex_28 => ?_)
                                            have tx_28 : x_28.toInt = 4 * at_.toInt := v_mul ex_28 (by show -2147483648 ≤ 4 * at_.toInt; omega) (by show 4 * at_.toInt < 2147483648; omega)
                                            refine lv_iload hx hb dX12_choices_303 (lv_at hl 4 rfl) ?_
                                            obtain ⟨f_29, ef_29⟩ : ∃ g : Nat → Int32, g = upd eHc (x_28 : Int32).toNatClampNeg one := ⟨_, rfl⟩
                                            refine va_iast hx hb hK hP hD hS 6 0 rfl rfl (v_in (by omega)) dX12_choices_305 (kWf (g := f_29) (F := fun f_29 => [(oM, .inr (12, [.ref mT, .int zt, .ref mS, .ref mX, .int zp, .int zf, .ref mL, .ref mB, .ref mD, .ref m1, .ref m2, .int zh, .ref mR, .int zr, .ref x1, .ref x2, .ref x3, .int zc, .ref mH, .int zy, .int za, .int zb, .int zs, .int zq, .int (-1), .int 0, .ref mY, .int zn_21, .ref mE, .int zm_21, .int zl_21, .ref mW, .int zk_21, .ref mO, .int zd_21, .ref y1, .ref y2, .ref y3, .ref y4, .ref mZ])), (mY, .inl (cI, 2600, .inl eY_21)), (mB, .inl (cS, 131072, .inl eB)), (mL, .inl (cI, 512, .inl eL)), (mE, .inl (cI, 2600, .inl eE_21)), (mW, .inl (cI, 300, .inl eW_21)), (mH, .inl (cI, 800, .inl f_29)), (mS, .inl (cI, 21, .inl eS)), (mX, .inl (cI, 6300, .inl eX)), (x1, .inl (cI, 300, .inl ec1)), (x2, .inl (cI, 300, .inl ec2)), (x3, .inl (cI, 300, .inl ec3))]) ef_29 rfl (fun H locs hPn hDn hSn => ?_))
                                            clear hP hD hS
                                            have hP := hPn
                                            have hD := hDn
                                            have hS := hSn
                                            clear hPn hDn hSn
                                            refine lv_aload_n hx hb dX12_choices_306 rfl (lv_at hl 6 rfl) ?_
                                            refine va_get (D := (dC, dI)) (ci := 12) (v := .ref mH) (C := RX12) (T := TX12) (N := 40) hx hb hts in_X12 hown hK hP 0 rfl rfl 18 (Nat.le_of_ble_eq_true rfl) (hts (.fieldLink RX12 48 "TextMenderModel" "choices" "[I") (List.mem_of_getElem? (i := 7) rfl)) (fun _ h9 => h9) rfl dX12_choices_307 ?_
                                            refine lv_iconst (v := 4) hx hb dX12_choices_310 (by decide) ?_
                                            refine lv_iload hx hb dX12_choices_311 (lv_at hl 9 rfl) ?_
                                            refine lv_imul hx hb dX12_choices_313 ?_
                                            refine lv_topi (fun x_30 ex_30 => ?_)
                                            have tx_30 : x_30.toInt = 4 * at_.toInt := v_mul ex_30 (by show -2147483648 ≤ 4 * at_.toInt; omega) (by show 4 * at_.toInt < 2147483648; omega)
                                            refine lv_iconst (v := 1) hx hb dX12_choices_314 (by decide) ?_
                                            refine lv_iadd hx hb dX12_choices_315 ?_
                                            refine lv_topi (fun x_31 ex_31 => ?_)
                                            have tx_31 : x_31.toInt = x_30.toInt + 1 := v_add ex_31 (by show -2147483648 ≤ x_30.toInt + 1; omega) (by show x_30.toInt + 1 < 2147483648; omega)
                                            refine lv_iload_n hx hb dX12_choices_316 rfl (lv_at hl 5 rfl) ?_
                                            refine lv_iconst (v := 1) hx hb dX12_choices_317 (by decide) ?_
                                            refine lv_icmp_ne (tgt := 325) hx hb dX12_choices_318 (by decide) (fun c_32 => by exfalso; have tc_32 : ¬ r_1.toInt = 1 := v_ne c_32; omega) (fun c_32 => ?_)
                                            have tc_32 : r_1.toInt = 1 := v_eq c_32
                                            refine lv_iconst (v := (-1)) hx hb dX12_choices_321 (by decide) ?_
                                            refine lv_goto (tgt := 327) hx hb dX12_choices_322 (by decide) ?_
                                            obtain ⟨f_33, ef_33⟩ : ∃ g : Nat → Int32, g = upd f_29 (x_31 : Int32).toNatClampNeg (-1) := ⟨_, rfl⟩
                                            refine va_iast hx hb hK hP hD hS 6 0 rfl rfl (v_in (by omega)) dX12_choices_327 (kWf (g := f_33) (F := fun f_33 => [(oM, .inr (12, [.ref mT, .int zt, .ref mS, .ref mX, .int zp, .int zf, .ref mL, .ref mB, .ref mD, .ref m1, .ref m2, .int zh, .ref mR, .int zr, .ref x1, .ref x2, .ref x3, .int zc, .ref mH, .int zy, .int za, .int zb, .int zs, .int zq, .int (-1), .int 0, .ref mY, .int zn_21, .ref mE, .int zm_21, .int zl_21, .ref mW, .int zk_21, .ref mO, .int zd_21, .ref y1, .ref y2, .ref y3, .ref y4, .ref mZ])), (mY, .inl (cI, 2600, .inl eY_21)), (mB, .inl (cS, 131072, .inl eB)), (mL, .inl (cI, 512, .inl eL)), (mE, .inl (cI, 2600, .inl eE_21)), (mW, .inl (cI, 300, .inl eW_21)), (mH, .inl (cI, 800, .inl f_33)), (mS, .inl (cI, 21, .inl eS)), (mX, .inl (cI, 6300, .inl eX)), (x1, .inl (cI, 300, .inl ec1)), (x2, .inl (cI, 300, .inl ec2)), (x3, .inl (cI, 300, .inl ec3))]) ef_33 rfl (fun H locs hPn hDn hSn => ?_))
                                            clear hP hD hS
                                            have hP := hPn
                                            have hD := hDn
                                            have hS := hSn
                                            clear hPn hDn hSn
                                            refine lv_aload_n hx hb dX12_choices_328 rfl (lv_at hl 6 rfl) ?_
                                            refine va_get (D := (dC, dI)) (ci := 12) (v := .ref mH) (C := RX12) (T := TX12) (N := 40) hx hb hts in_X12 hown hK hP 0 rfl rfl 18 (Nat.le_of_ble_eq_true rfl) (hts (.fieldLink RX12 48 "TextMenderModel" "choices" "[I") (List.mem_of_getElem? (i := 7) rfl)) (fun _ h9 => h9) rfl dX12_choices_329 ?_
                                            refine lv_iconst (v := 4) hx hb dX12_choices_332 (by decide) ?_
                                            refine lv_iload hx hb dX12_choices_333 (lv_at hl 9 rfl) ?_
                                            refine lv_imul hx hb dX12_choices_335 ?_
                                            refine lv_topi (fun x_34 ex_34 => ?_)
                                            have tx_34 : x_34.toInt = 4 * at_.toInt := v_mul ex_34 (by show -2147483648 ≤ 4 * at_.toInt; omega) (by show 4 * at_.toInt < 2147483648; omega)
                                            refine lv_iconst (v := 2) hx hb dX12_choices_336 (by decide) ?_
                                            refine lv_iadd hx hb dX12_choices_337 ?_
                                            refine lv_topi (fun x_35 ex_35 => ?_)
                                            have tx_35 : x_35.toInt = x_34.toInt + 2 := v_add ex_35 (by show -2147483648 ≤ x_34.toInt + 2; omega) (by show x_34.toInt + 2 < 2147483648; omega)
                                            refine lv_iload hx hb dX12_choices_338 (lv_at hl 2 rfl) ?_
                                            obtain ⟨f_36, ef_36⟩ : ∃ g : Nat → Int32, g = upd f_33 (x_35 : Int32).toNatClampNeg r_23 := ⟨_, rfl⟩
                                            refine va_iast hx hb hK hP hD hS 6 0 rfl rfl (v_in (by omega)) dX12_choices_340 (kWf (g := f_36) (F := fun f_36 => [(oM, .inr (12, [.ref mT, .int zt, .ref mS, .ref mX, .int zp, .int zf, .ref mL, .ref mB, .ref mD, .ref m1, .ref m2, .int zh, .ref mR, .int zr, .ref x1, .ref x2, .ref x3, .int zc, .ref mH, .int zy, .int za, .int zb, .int zs, .int zq, .int (-1), .int 0, .ref mY, .int zn_21, .ref mE, .int zm_21, .int zl_21, .ref mW, .int zk_21, .ref mO, .int zd_21, .ref y1, .ref y2, .ref y3, .ref y4, .ref mZ])), (mY, .inl (cI, 2600, .inl eY_21)), (mB, .inl (cS, 131072, .inl eB)), (mL, .inl (cI, 512, .inl eL)), (mE, .inl (cI, 2600, .inl eE_21)), (mW, .inl (cI, 300, .inl eW_21)), (mH, .inl (cI, 800, .inl f_36)), (mS, .inl (cI, 21, .inl eS)), (mX, .inl (cI, 6300, .inl eX)), (x1, .inl (cI, 300, .inl ec1)), (x2, .inl (cI, 300, .inl ec2)), (x3, .inl (cI, 300, .inl ec3))]) ef_36 rfl (fun H locs hPn hDn hSn => ?_))
                                            clear hP hD hS
                                            have hP := hPn
                                            have hD := hDn
                                            have hS := hSn
                                            clear hPn hDn hSn
                                            refine lv_aload_n hx hb dX12_choices_341 rfl (lv_at hl 6 rfl) ?_
                                            refine va_get (D := (dC, dI)) (ci := 12) (v := .ref mH) (C := RX12) (T := TX12) (N := 40) hx hb hts in_X12 hown hK hP 0 rfl rfl 18 (Nat.le_of_ble_eq_true rfl) (hts (.fieldLink RX12 48 "TextMenderModel" "choices" "[I") (List.mem_of_getElem? (i := 7) rfl)) (fun _ h9 => h9) rfl dX12_choices_342 ?_
                                            refine lv_iconst (v := 4) hx hb dX12_choices_345 (by decide) ?_
                                            refine lv_iload hx hb dX12_choices_346 (lv_at hl 9 rfl) ?_
                                            refine lv_imul hx hb dX12_choices_348 ?_
                                            refine lv_topi (fun x_37 ex_37 => ?_)
                                            have tx_37 : x_37.toInt = 4 * at_.toInt := v_mul ex_37 (by show -2147483648 ≤ 4 * at_.toInt; omega) (by show 4 * at_.toInt < 2147483648; omega)
                                            refine lv_iconst (v := 3) hx hb dX12_choices_349 (by decide) ?_
                                            refine lv_iadd hx hb dX12_choices_350 ?_
                                            refine lv_topi (fun x_38 ex_38 => ?_)
                                            have tx_38 : x_38.toInt = x_37.toInt + 3 := v_add ex_38 (by show -2147483648 ≤ x_37.toInt + 3; omega) (by show x_37.toInt + 3 < 2147483648; omega)
                                            refine lv_aload_n hx hb dX12_choices_351 rfl (lv_at hl 6 rfl) ?_
                                            refine va_get (D := (dC, dI)) (ci := 12) (v := .int zk_21) (C := RX12) (T := TX12) (N := 40) hx hb hts in_X12 hown hK hP 0 rfl rfl 32 (Nat.le_of_ble_eq_true rfl) (hts (.fieldLink RX12 135 "TextMenderModel" "workMany" "I") (List.mem_of_getElem? (i := 6) rfl)) (fun _ h9 => h9) rfl dX12_choices_352 ?_
                                            obtain ⟨f_39, ef_39⟩ : ∃ g : Nat → Int32, g = upd f_36 (x_38 : Int32).toNatClampNeg zk_21 := ⟨_, rfl⟩
                                            refine va_iast hx hb hK hP hD hS 6 0 rfl rfl (v_in (by omega)) dX12_choices_355 (kWf (g := f_39) (F := fun f_39 => [(oM, .inr (12, [.ref mT, .int zt, .ref mS, .ref mX, .int zp, .int zf, .ref mL, .ref mB, .ref mD, .ref m1, .ref m2, .int zh, .ref mR, .int zr, .ref x1, .ref x2, .ref x3, .int zc, .ref mH, .int zy, .int za, .int zb, .int zs, .int zq, .int (-1), .int 0, .ref mY, .int zn_21, .ref mE, .int zm_21, .int zl_21, .ref mW, .int zk_21, .ref mO, .int zd_21, .ref y1, .ref y2, .ref y3, .ref y4, .ref mZ])), (mY, .inl (cI, 2600, .inl eY_21)), (mB, .inl (cS, 131072, .inl eB)), (mL, .inl (cI, 512, .inl eL)), (mE, .inl (cI, 2600, .inl eE_21)), (mW, .inl (cI, 300, .inl eW_21)), (mH, .inl (cI, 800, .inl f_39)), (mS, .inl (cI, 21, .inl eS)), (mX, .inl (cI, 6300, .inl eX)), (x1, .inl (cI, 300, .inl ec1)), (x2, .inl (cI, 300, .inl ec2)), (x3, .inl (cI, 300, .inl ec3))]) ef_39 rfl (fun H locs hPn hDn hSn => ?_))
                                            clear hP hD hS
                                            have hP := hPn
                                            have hD := hDn
                                            have hS := hSn
                                            clear hPn hDn hSn
                                            obtain ⟨x_40, ex_40⟩ : ∃ y : Int32, y = two + 1 := ⟨_, rfl⟩
                                            have tx_40 : x_40.toInt = two.toInt + 1 := v_addR (l2 := 1) (h2 := 1) ex_40 g_two (by decide) (by decide) (by decide)
                                            refine lv_iinc (v := x_40) (lv' := [(6, .int x_40), (9, .int k), (4, .int x_24), (7, .int r_23), (5, .int one), (3, .int r_1), (0, .ref oM), (1, .int a), (2, .int b), (8, .int at_)]) hx hb dX12_choices_356 hl (k := 3) rfl (by rw [ex_40]; rfl) (by decide) rfl (fun ls hl => ?_)
                                            refine lv_goto (tgt := 89) hx hb dX12_choices_359 (by decide) ?_
                                            exact ih_89 x_40 x_24 zn_21 zd_21 zm_21 zl_21 zk_21 eY_21 eE_21 eW_21 f_39 _ _ _ (ms_lt hm_89 (by show ((256 - x_40.toInt : Int)) < 256 - two.toInt; omega) (by show (0 : Int) < 256 - two.toInt; omega)) (by show 0 ≤ x_40.toInt ∧ x_40.toInt ≤ 256; omega) (by show 0 ≤ x_24.toInt ∧ x_24.toInt ≤ 65536; omega) (hf21_0) (hf21_2) (hf21_4) (hf21_1) (hf21_3) (hf21_5) (by show x_24.toInt ≤ 256 * one.toInt + x_40.toInt ∧ x_40.toInt ≤ 1; omega) (fld_s hfi (by rw [Nat.zero_add]; exact stp_y (vx_y (mk := 1) (o := one) (w := two) hv9 (by omega) (by omega) (Or.inl ⟨rfl, by omega, by omega⟩) hal1 (fun z9 => absurd z9 (by decide)) hcc9) (by have c8 := v_clamp (x := x_24) (by omega); omega) (rp_end hkr hsr9 (by omega) (by have q9 := m200_l n2.toNatClampNeg; have q8 := hmat9; omega) (by have q8 := hhi9; omega) (by omega) (by omega) (by omega) (by omega) ef_29 ef_33 ef_36 ef_39 (by rw [ent1.1]) (by rw [ent1.2.1]; rfl) (by rw [ent1.2.2.1]) (by rw [ent1.2.2.2]; exact hzk9) (fun i h1 h2 => by rw [ent1.2.2.1]; exact hbj i h1 h2) (by rw [ent1.2.2.1]; exact hsj))) (by rw [ix_eq (x := x_40) (N := two.toNatClampNeg + 1) (by omega)]; omega)) hP hD hS (lv_sub hl [0, 4, 2, 5, 6, 7, 8] rfl)
                                          · have tc_27 : at_.toInt < k.toInt := v_nle c_27
                                            refine lv_iconst (v := 0) hx hb dX12_choices_248 (by decide) ?_
                                            refine lv_istore (lv' := [(10, .int 0), (9, .int k), (4, .int x_24), (7, .int r_23), (6, .int two), (5, .int one), (3, .int r_1), (0, .ref oM), (1, .int a), (2, .int b), (8, .int at_)]) hx hb dX12_choices_249 hl (by decide) rfl (fun ls hl => ?_)
                                            have LOOP_251 : ∀ (k_251 : Nat) (i : Int32) (eHd : Nat → Int32) (H : Heap) (locs : List Loc) (ls : Array Slot), MSd (4 - i.toInt : Int) k_251 → (0 ≤ i.toInt ∧ i.toInt ≤ 4) → (KPI eHb eHd k.toInt (199) i.toInt) → va_P (dC, dI) vwCl [(oM, .inr (12, [.ref mT, .int zt, .ref mS, .ref mX, .int zp, .int zf, .ref mL, .ref mB, .ref mD, .ref m1, .ref m2, .int zh, .ref mR, .int zr, .ref x1, .ref x2, .ref x3, .int zc, .ref mH, .int zy, .int za, .int zb, .int zs, .int zq, .int (-1), .int 0, .ref mY, .int zn_21, .ref mE, .int zm_21, .int zl_21, .ref mW, .int zk_21, .ref mO, .int zd_21, .ref y1, .ref y2, .ref y3, .ref y4, .ref mZ])), (mY, .inl (cI, 2600, .inl eY_21)), (mB, .inl (cS, 131072, .inl eB)), (mL, .inl (cI, 512, .inl eL)), (mE, .inl (cI, 2600, .inl eE_21)), (mW, .inl (cI, 300, .inl eW_21)), (mH, .inl (cI, 800, .inl eHd)), (mS, .inl (cI, 21, .inl eS)), (mX, .inl (cI, 6300, .inl eX)), (x1, .inl (cI, 300, .inl ec1)), (x2, .inl (cI, 300, .inl ec2)), (x3, .inl (cI, 300, .inl ec3))] H → va_D A [(oM, .inr (12, [.ref mT, .int zt, .ref mS, .ref mX, .int zp, .int zf, .ref mL, .ref mB, .ref mD, .ref m1, .ref m2, .int zh, .ref mR, .int zr, .ref x1, .ref x2, .ref x3, .int zc, .ref mH, .int zy, .int za, .int zb, .int zs, .int zq, .int (-1), .int 0, .ref mY, .int zn_21, .ref mE, .int zm_21, .int zl_21, .ref mW, .int zk_21, .ref mO, .int zd_21, .ref y1, .ref y2, .ref y3, .ref y4, .ref mZ])), (mY, .inl (cI, 2600, .inl eY_21)), (mB, .inl (cS, 131072, .inl eB)), (mL, .inl (cI, 512, .inl eL)), (mE, .inl (cI, 2600, .inl eE_21)), (mW, .inl (cI, 300, .inl eW_21)), (mH, .inl (cI, 800, .inl eHd)), (mS, .inl (cI, 21, .inl eS)), (mX, .inl (cI, 6300, .inl eX)), (x1, .inl (cI, 300, .inl ec1)), (x2, .inl (cI, 300, .inl ec2)), (x3, .inl (cI, 300, .inl ec3))] → va_S A s.heap H locs → lv_has ls 11 [(10, .int i), (9, .int k), (4, .int x_24), (7, .int r_23), (6, .int two), (5, .int one), (3, .int r_1), (0, .ref oM), (1, .int a), (2, .int b), (8, .int at_)] → W p l e (headSpec wsX12_choices ({ frames := 4, cells := 0, slots := 0, locals := 97 } : Room)).room s m ([.ref oM, .int a, .int b] : List Value).toArray below meth c H locs 0 0 (MQ below QQ ([.ref oM, .int a, .int b] : List Value).toArray s 0 0 A) (F0 m 251 ls []) := by
                                              clear hP hD hS hl
                                              try (clear hf21_0 hf21_2 hf17_1 g_znb g_zmb g_zkb g_zna g_zma g_zka g_zy g_za g_zb g_zs g_zq g_zm g_zk hzs)
                                              intro k_251
                                              induction k_251 with
                                              | zero =>
                                                intro i eHd H locs ls hm_251 g_i hki hP hD hS hl
                                                exact ms_0 hm_251
                                              | succ k_251 ih_251 =>
                                                intro i eHd H locs ls hm_251 g_i hki hP hD hS hl
                                                refine lv_iload hx hb dX12_choices_251 (lv_at hl 0 rfl) ?_
                                                refine lv_iconst (v := 4) hx hb dX12_choices_253 (by decide) ?_
                                                refine lv_icmp_ge (tgt := 289) hx hb dX12_choices_254 (by decide) (fun c_41 => ?_) (fun c_41 => ?_)
                                                · have tc_41 : 4 ≤ i.toInt := v_le c_41
                                                  obtain ⟨x_42, ex_42⟩ : ∃ y : Int32, y = k + (-1) := ⟨_, rfl⟩
                                                  have tx_42 : x_42.toInt = k.toInt + (-1) := v_addR (l2 := (-1)) (h2 := (-1)) ex_42 g_k (by decide) (by decide) (by decide)
                                                  refine lv_iinc (v := x_42) (lv' := [(9, .int x_42), (10, .int i), (4, .int x_24), (7, .int r_23), (6, .int two), (5, .int one), (3, .int r_1), (0, .ref oM), (1, .int a), (2, .int b), (8, .int at_)]) hx hb dX12_choices_289 hl (k := 1) rfl (by rw [ex_42]; rfl) (by decide) rfl (fun ls hl => ?_)
                                                  refine lv_goto (tgt := 241) hx hb dX12_choices_292 (by decide) ?_
                                                  exact ih_241 x_42 eHd _ _ _ (ms_lt hm_241 (by show ((x_42.toInt - at_.toInt : Int)) < k.toInt - at_.toInt; omega) (by show (0 : Int) < k.toInt - at_.toInt; omega)) (by show 0 ≤ x_42.toInt ∧ x_42.toInt ≤ 199; omega) (by show at_.toInt ≤ x_42.toInt; omega) (by show x_42.toInt ≤ 199; omega) (KPI_e hki (by omega) (by omega)) hP hD hS (lv_sub hl [0, 2, 3, 4, 5, 6, 7, 8, 9, 10] rfl)
                                                · have tc_41 : i.toInt < 4 := v_nle c_41
                                                  refine lv_aload_n hx hb dX12_choices_257 rfl (lv_at hl 7 rfl) ?_
                                                  refine va_get (D := (dC, dI)) (ci := 12) (v := .ref mH) (C := RX12) (T := TX12) (N := 40) hx hb hts in_X12 hown hK hP 0 rfl rfl 18 (Nat.le_of_ble_eq_true rfl) (hts (.fieldLink RX12 48 "TextMenderModel" "choices" "[I") (List.mem_of_getElem? (i := 7) rfl)) (fun _ h9 => h9) rfl dX12_choices_258 ?_
                                                  refine lv_iconst (v := 4) hx hb dX12_choices_261 (by decide) ?_
                                                  refine lv_iload hx hb dX12_choices_262 (lv_at hl 1 rfl) ?_
                                                  refine lv_imul hx hb dX12_choices_264 ?_
                                                  refine lv_topi (fun x_43 ex_43 => ?_)
                                                  have tx_43 : x_43.toInt = 4 * k.toInt := v_mul ex_43 (by show -2147483648 ≤ 4 * k.toInt; omega) (by show 4 * k.toInt < 2147483648; omega)
                                                  refine lv_iload hx hb dX12_choices_265 (lv_at hl 0 rfl) ?_
                                                  refine lv_iadd hx hb dX12_choices_267 ?_
                                                  refine lv_topi (fun x_44 ex_44 => ?_)
                                                  have tx_44 : x_44.toInt = x_43.toInt + i.toInt := v_add ex_44 (by show -2147483648 ≤ x_43.toInt + i.toInt; omega) (by show x_43.toInt + i.toInt < 2147483648; omega)
                                                  refine lv_aload_n hx hb dX12_choices_268 rfl (lv_at hl 7 rfl) ?_
                                                  refine va_get (D := (dC, dI)) (ci := 12) (v := .ref mH) (C := RX12) (T := TX12) (N := 40) hx hb hts in_X12 hown hK hP 0 rfl rfl 18 (Nat.le_of_ble_eq_true rfl) (hts (.fieldLink RX12 48 "TextMenderModel" "choices" "[I") (List.mem_of_getElem? (i := 7) rfl)) (fun _ h9 => h9) rfl dX12_choices_269 ?_
                                                  refine lv_iconst (v := 4) hx hb dX12_choices_272 (by decide) ?_
                                                  refine lv_iload hx hb dX12_choices_273 (lv_at hl 1 rfl) ?_
                                                  refine lv_imul hx hb dX12_choices_275 ?_
                                                  refine lv_topi (fun x_45 ex_45 => ?_)
                                                  have tx_45 : x_45.toInt = 4 * k.toInt := v_mul ex_45 (by show -2147483648 ≤ 4 * k.toInt; omega) (by show 4 * k.toInt < 2147483648; omega)
                                                  refine lv_iconst (v := 4) hx hb dX12_choices_276 (by decide) ?_
                                                  refine lv_isub hx hb dX12_choices_277 ?_
                                                  refine lv_topi (fun x_46 ex_46 => ?_)
                                                  have tx_46 : x_46.toInt = x_45.toInt - 4 := v_sub ex_46 (by show -2147483648 ≤ x_45.toInt - 4; omega) (by show x_45.toInt - 4 < 2147483648; omega)
                                                  refine lv_iload hx hb dX12_choices_278 (lv_at hl 0 rfl) ?_
                                                  refine lv_iadd hx hb dX12_choices_280 ?_
                                                  refine lv_topi (fun x_47 ex_47 => ?_)
                                                  have tx_47 : x_47.toInt = x_46.toInt + i.toInt := v_add ex_47 (by show -2147483648 ≤ x_46.toInt + i.toInt; omega) (by show x_46.toInt + i.toInt < 2147483648; omega)
                                                  refine va_iald hx hb hK hP 6 0 rfl rfl (v_in (by omega)) dX12_choices_281 ?_
                                                  refine lv_topi (fun x_48 ex_48 => ?_)
                                                  obtain ⟨f_49, ef_49⟩ : ∃ g : Nat → Int32, g = upd eHd (x_44 : Int32).toNatClampNeg x_48 := ⟨_, rfl⟩
                                                  refine va_iast hx hb hK hP hD hS 6 0 rfl rfl (v_in (by omega)) dX12_choices_282 (kWf (g := f_49) (F := fun f_49 => [(oM, .inr (12, [.ref mT, .int zt, .ref mS, .ref mX, .int zp, .int zf, .ref mL, .ref mB, .ref mD, .ref m1, .ref m2, .int zh, .ref mR, .int zr, .ref x1, .ref x2, .ref x3, .int zc, .ref mH, .int zy, .int za, .int zb, .int zs, .int zq, .int (-1), .int 0, .ref mY, .int zn_21, .ref mE, .int zm_21, .int zl_21, .ref mW, .int zk_21, .ref mO, .int zd_21, .ref y1, .ref y2, .ref y3, .ref y4, .ref mZ])), (mY, .inl (cI, 2600, .inl eY_21)), (mB, .inl (cS, 131072, .inl eB)), (mL, .inl (cI, 512, .inl eL)), (mE, .inl (cI, 2600, .inl eE_21)), (mW, .inl (cI, 300, .inl eW_21)), (mH, .inl (cI, 800, .inl f_49)), (mS, .inl (cI, 21, .inl eS)), (mX, .inl (cI, 6300, .inl eX)), (x1, .inl (cI, 300, .inl ec1)), (x2, .inl (cI, 300, .inl ec2)), (x3, .inl (cI, 300, .inl ec3))]) ef_49 rfl (fun H locs hPn hDn hSn => ?_))
                                                  clear hP hD hS
                                                  have hP := hPn
                                                  have hD := hDn
                                                  have hS := hSn
                                                  clear hPn hDn hSn
                                                  obtain ⟨x_50, ex_50⟩ : ∃ y : Int32, y = i + 1 := ⟨_, rfl⟩
                                                  have tx_50 : x_50.toInt = i.toInt + 1 := v_addR (l2 := 1) (h2 := 1) ex_50 g_i (by decide) (by decide) (by decide)
                                                  refine lv_iinc (v := x_50) (lv' := [(10, .int x_50), (9, .int k), (4, .int x_24), (7, .int r_23), (6, .int two), (5, .int one), (3, .int r_1), (0, .ref oM), (1, .int a), (2, .int b), (8, .int at_)]) hx hb dX12_choices_283 hl (k := 0) rfl (by rw [ex_50]; rfl) (by decide) rfl (fun ls hl => ?_)
                                                  refine lv_goto (tgt := 251) hx hb dX12_choices_286 (by decide) ?_
                                                  exact ih_251 x_50 f_49 _ _ _ (ms_lt hm_251 (by show ((4 - x_50.toInt : Int)) < 4 - i.toInt; omega) (by show (0 : Int) < 4 - i.toInt; omega)) (by show 0 ≤ x_50.toInt ∧ x_50.toInt ≤ 4; omega) (KPI_s (a := x_44) (c := x_47) hki (by omega) (by omega) (by omega) (by omega) ex_48 ef_49 (by omega)) hP hD hS (lv_sub hl [0, 1, 2, 3, 4, 5, 6, 7, 8, 9, 10] rfl)
                                            exact LOOP_251 _ 0 eHc _ _ _ (ms_s _) (by decide) (KPI_0 hkr rfl) hP hD hS (lv_sub hl [0, 1, 2, 3, 4, 5, 6, 7, 8, 9, 10] rfl)
                                      exact LOOP_241 _ 199 eHb _ _ _ (ms_s _) (by decide) (by show at_.toInt ≤ 199; omega) (by show 199 ≤ 199; omega) (KPR_0 rfl) hP hD hS (lv_sub hl [0, 1, 2, 3, 4, 5, 6, 7, 8, 9] rfl)
                                    · have tc_26 : x_24.toInt < 200 := v_nle c_26
                                      refine lv_iload hx hb dX12_choices_229 (lv_at hl 0 rfl) ?_
                                      refine lv_goto (tgt := 237) hx hb dX12_choices_231 (by decide) ?_
                                      refine lv_iconst (v := 1) hx hb dX12_choices_237 (by decide) ?_
                                      refine lv_isub hx hb dX12_choices_238 ?_
                                      refine lv_topi (fun x_51 ex_51 => ?_)
                                      have tx_51 : x_51.toInt = x_24.toInt - 1 := v_subR (l2 := 1) (h2 := 1) ex_51 (v_sumR (l := 1) (h := 65537) (l2 := 1) (h2 := 1) tx_24 g_n2 (by decide) (by decide) (by decide)) (by decide) (by decide) (by decide)
                                      refine lv_istore (lv' := [(9, .int x_51), (4, .int x_24), (7, .int r_23), (6, .int two), (5, .int one), (3, .int r_1), (0, .ref oM), (1, .int a), (2, .int b), (8, .int at_)]) hx hb dX12_choices_239 hl (by decide) rfl (fun ls hl => ?_)
                                      have hhi9 : (m200 (n2.toNatClampNeg + 1) : Int) ≤ x_51.toInt + 1 := by have q9 := m200_l (n2.toNatClampNeg + 1); omega
                                      have hmat9 : at_.toInt ≤ (m200 n2.toNatClampNeg : Int) := by have q9 := m2_v n2.toNatClampNeg; by_cases z9 : (n2.toNatClampNeg : Int) < 200 <;> (first | rw [if_pos z9] at q9 | rw [if_neg z9] at q9) <;> omega
                                      have LOOP_241 : ∀ (k_241 : Nat) (k : Int32) (eHc : Nat → Int32) (H : Heap) (locs : List Loc) (ls : Array Slot), MSd (k.toInt - at_.toInt : Int) k_241 → (0 ≤ k.toInt ∧ k.toInt ≤ 199) → (at_.toInt ≤ k.toInt) → (k.toInt ≤ x_51.toInt) → (KPR eHb eHc k.toInt (x_51.toInt)) → va_P (dC, dI) vwCl [(oM, .inr (12, [.ref mT, .int zt, .ref mS, .ref mX, .int zp, .int zf, .ref mL, .ref mB, .ref mD, .ref m1, .ref m2, .int zh, .ref mR, .int zr, .ref x1, .ref x2, .ref x3, .int zc, .ref mH, .int zy, .int za, .int zb, .int zs, .int zq, .int (-1), .int 0, .ref mY, .int zn_21, .ref mE, .int zm_21, .int zl_21, .ref mW, .int zk_21, .ref mO, .int zd_21, .ref y1, .ref y2, .ref y3, .ref y4, .ref mZ])), (mY, .inl (cI, 2600, .inl eY_21)), (mB, .inl (cS, 131072, .inl eB)), (mL, .inl (cI, 512, .inl eL)), (mE, .inl (cI, 2600, .inl eE_21)), (mW, .inl (cI, 300, .inl eW_21)), (mH, .inl (cI, 800, .inl eHc)), (mS, .inl (cI, 21, .inl eS)), (mX, .inl (cI, 6300, .inl eX)), (x1, .inl (cI, 300, .inl ec1)), (x2, .inl (cI, 300, .inl ec2)), (x3, .inl (cI, 300, .inl ec3))] H → va_D A [(oM, .inr (12, [.ref mT, .int zt, .ref mS, .ref mX, .int zp, .int zf, .ref mL, .ref mB, .ref mD, .ref m1, .ref m2, .int zh, .ref mR, .int zr, .ref x1, .ref x2, .ref x3, .int zc, .ref mH, .int zy, .int za, .int zb, .int zs, .int zq, .int (-1), .int 0, .ref mY, .int zn_21, .ref mE, .int zm_21, .int zl_21, .ref mW, .int zk_21, .ref mO, .int zd_21, .ref y1, .ref y2, .ref y3, .ref y4, .ref mZ])), (mY, .inl (cI, 2600, .inl eY_21)), (mB, .inl (cS, 131072, .inl eB)), (mL, .inl (cI, 512, .inl eL)), (mE, .inl (cI, 2600, .inl eE_21)), (mW, .inl (cI, 300, .inl eW_21)), (mH, .inl (cI, 800, .inl eHc)), (mS, .inl (cI, 21, .inl eS)), (mX, .inl (cI, 6300, .inl eX)), (x1, .inl (cI, 300, .inl ec1)), (x2, .inl (cI, 300, .inl ec2)), (x3, .inl (cI, 300, .inl ec3))] → va_S A s.heap H locs → lv_has ls 11 [(9, .int k), (4, .int x_24), (7, .int r_23), (6, .int two), (5, .int one), (3, .int r_1), (0, .ref oM), (1, .int a), (2, .int b), (8, .int at_)] → W p l e (headSpec wsX12_choices ({ frames := 4, cells := 0, slots := 0, locals := 97 } : Room)).room s m ([.ref oM, .int a, .int b] : List Value).toArray below meth c H locs 0 0 (MQ below QQ ([.ref oM, .int a, .int b] : List Value).toArray s 0 0 A) (F0 m 241 ls []) := by
                                        clear hP hD hS hl
                                        try (clear hf17_1 g_znb g_zmb g_zkb g_zna g_zma g_zka g_zy g_za g_zb g_zs g_zq g_zm g_zk hzs)
                                        intro k_241
                                        induction k_241 with
                                        | zero =>
                                          intro k eHc H locs ls hm_241 g_k hka hkh hkr hP hD hS hl
                                          exact ms_0 hm_241
                                        | succ k_241 ih_241 =>
                                          intro k eHc H locs ls hm_241 g_k hka hkh hkr hP hD hS hl
                                          refine lv_iload hx hb dX12_choices_241 (lv_at hl 0 rfl) ?_
                                          refine lv_iload hx hb dX12_choices_243 (lv_at hl 9 rfl) ?_
                                          refine lv_icmp_le (tgt := 295) hx hb dX12_choices_245 (by decide) (fun c_52 => ?_) (fun c_52 => ?_)
                                          · have tc_52 : k.toInt ≤ at_.toInt := v_le c_52
                                            have hkr : KPR eHb eHc at_.toInt _ := (show k.toInt = at_.toInt by omega) ▸ hkr
                                            refine lv_aload_n hx hb dX12_choices_295 rfl (lv_at hl 6 rfl) ?_
                                            refine va_get (D := (dC, dI)) (ci := 12) (v := .ref mH) (C := RX12) (T := TX12) (N := 40) hx hb hts in_X12 hown hK hP 0 rfl rfl 18 (Nat.le_of_ble_eq_true rfl) (hts (.fieldLink RX12 48 "TextMenderModel" "choices" "[I") (List.mem_of_getElem? (i := 7) rfl)) (fun _ h9 => h9) rfl dX12_choices_296 ?_
                                            refine lv_iconst (v := 4) hx hb dX12_choices_299 (by decide) ?_
                                            refine lv_iload hx hb dX12_choices_300 (lv_at hl 9 rfl) ?_
                                            refine lv_imul hx hb dX12_choices_302 ?_
                                            refine lv_topi (fun x_53 ex_53 => ?_)
                                            have tx_53 : x_53.toInt = 4 * at_.toInt := v_mul ex_53 (by show -2147483648 ≤ 4 * at_.toInt; omega) (by show 4 * at_.toInt < 2147483648; omega)
                                            refine lv_iload hx hb dX12_choices_303 (lv_at hl 4 rfl) ?_
                                            obtain ⟨f_54, ef_54⟩ : ∃ g : Nat → Int32, g = upd eHc (x_53 : Int32).toNatClampNeg one := ⟨_, rfl⟩
                                            refine va_iast hx hb hK hP hD hS 6 0 rfl rfl (v_in (by omega)) dX12_choices_305 (kWf (g := f_54) (F := fun f_54 => [(oM, .inr (12, [.ref mT, .int zt, .ref mS, .ref mX, .int zp, .int zf, .ref mL, .ref mB, .ref mD, .ref m1, .ref m2, .int zh, .ref mR, .int zr, .ref x1, .ref x2, .ref x3, .int zc, .ref mH, .int zy, .int za, .int zb, .int zs, .int zq, .int (-1), .int 0, .ref mY, .int zn_21, .ref mE, .int zm_21, .int zl_21, .ref mW, .int zk_21, .ref mO, .int zd_21, .ref y1, .ref y2, .ref y3, .ref y4, .ref mZ])), (mY, .inl (cI, 2600, .inl eY_21)), (mB, .inl (cS, 131072, .inl eB)), (mL, .inl (cI, 512, .inl eL)), (mE, .inl (cI, 2600, .inl eE_21)), (mW, .inl (cI, 300, .inl eW_21)), (mH, .inl (cI, 800, .inl f_54)), (mS, .inl (cI, 21, .inl eS)), (mX, .inl (cI, 6300, .inl eX)), (x1, .inl (cI, 300, .inl ec1)), (x2, .inl (cI, 300, .inl ec2)), (x3, .inl (cI, 300, .inl ec3))]) ef_54 rfl (fun H locs hPn hDn hSn => ?_))
                                            clear hP hD hS
                                            have hP := hPn
                                            have hD := hDn
                                            have hS := hSn
                                            clear hPn hDn hSn
                                            refine lv_aload_n hx hb dX12_choices_306 rfl (lv_at hl 6 rfl) ?_
                                            refine va_get (D := (dC, dI)) (ci := 12) (v := .ref mH) (C := RX12) (T := TX12) (N := 40) hx hb hts in_X12 hown hK hP 0 rfl rfl 18 (Nat.le_of_ble_eq_true rfl) (hts (.fieldLink RX12 48 "TextMenderModel" "choices" "[I") (List.mem_of_getElem? (i := 7) rfl)) (fun _ h9 => h9) rfl dX12_choices_307 ?_
                                            refine lv_iconst (v := 4) hx hb dX12_choices_310 (by decide) ?_
                                            refine lv_iload hx hb dX12_choices_311 (lv_at hl 9 rfl) ?_
                                            refine lv_imul hx hb dX12_choices_313 ?_
                                            refine lv_topi (fun x_55 ex_55 => ?_)
                                            have tx_55 : x_55.toInt = 4 * at_.toInt := v_mul ex_55 (by show -2147483648 ≤ 4 * at_.toInt; omega) (by show 4 * at_.toInt < 2147483648; omega)
                                            refine lv_iconst (v := 1) hx hb dX12_choices_314 (by decide) ?_
                                            refine lv_iadd hx hb dX12_choices_315 ?_
                                            refine lv_topi (fun x_56 ex_56 => ?_)
                                            have tx_56 : x_56.toInt = x_55.toInt + 1 := v_add ex_56 (by show -2147483648 ≤ x_55.toInt + 1; omega) (by show x_55.toInt + 1 < 2147483648; omega)
                                            refine lv_iload_n hx hb dX12_choices_316 rfl (lv_at hl 5 rfl) ?_
                                            refine lv_iconst (v := 1) hx hb dX12_choices_317 (by decide) ?_
                                            refine lv_icmp_ne (tgt := 325) hx hb dX12_choices_318 (by decide) (fun c_57 => by exfalso; have tc_57 : ¬ r_1.toInt = 1 := v_ne c_57; omega) (fun c_57 => ?_)
                                            have tc_57 : r_1.toInt = 1 := v_eq c_57
                                            refine lv_iconst (v := (-1)) hx hb dX12_choices_321 (by decide) ?_
                                            refine lv_goto (tgt := 327) hx hb dX12_choices_322 (by decide) ?_
                                            obtain ⟨f_58, ef_58⟩ : ∃ g : Nat → Int32, g = upd f_54 (x_56 : Int32).toNatClampNeg (-1) := ⟨_, rfl⟩
                                            refine va_iast hx hb hK hP hD hS 6 0 rfl rfl (v_in (by omega)) dX12_choices_327 (kWf (g := f_58) (F := fun f_58 => [(oM, .inr (12, [.ref mT, .int zt, .ref mS, .ref mX, .int zp, .int zf, .ref mL, .ref mB, .ref mD, .ref m1, .ref m2, .int zh, .ref mR, .int zr, .ref x1, .ref x2, .ref x3, .int zc, .ref mH, .int zy, .int za, .int zb, .int zs, .int zq, .int (-1), .int 0, .ref mY, .int zn_21, .ref mE, .int zm_21, .int zl_21, .ref mW, .int zk_21, .ref mO, .int zd_21, .ref y1, .ref y2, .ref y3, .ref y4, .ref mZ])), (mY, .inl (cI, 2600, .inl eY_21)), (mB, .inl (cS, 131072, .inl eB)), (mL, .inl (cI, 512, .inl eL)), (mE, .inl (cI, 2600, .inl eE_21)), (mW, .inl (cI, 300, .inl eW_21)), (mH, .inl (cI, 800, .inl f_58)), (mS, .inl (cI, 21, .inl eS)), (mX, .inl (cI, 6300, .inl eX)), (x1, .inl (cI, 300, .inl ec1)), (x2, .inl (cI, 300, .inl ec2)), (x3, .inl (cI, 300, .inl ec3))]) ef_58 rfl (fun H locs hPn hDn hSn => ?_))
                                            clear hP hD hS
                                            have hP := hPn
                                            have hD := hDn
                                            have hS := hSn
                                            clear hPn hDn hSn
                                            refine lv_aload_n hx hb dX12_choices_328 rfl (lv_at hl 6 rfl) ?_
                                            refine va_get (D := (dC, dI)) (ci := 12) (v := .ref mH) (C := RX12) (T := TX12) (N := 40) hx hb hts in_X12 hown hK hP 0 rfl rfl 18 (Nat.le_of_ble_eq_true rfl) (hts (.fieldLink RX12 48 "TextMenderModel" "choices" "[I") (List.mem_of_getElem? (i := 7) rfl)) (fun _ h9 => h9) rfl dX12_choices_329 ?_
                                            refine lv_iconst (v := 4) hx hb dX12_choices_332 (by decide) ?_
                                            refine lv_iload hx hb dX12_choices_333 (lv_at hl 9 rfl) ?_
                                            refine lv_imul hx hb dX12_choices_335 ?_
                                            refine lv_topi (fun x_59 ex_59 => ?_)
                                            have tx_59 : x_59.toInt = 4 * at_.toInt := v_mul ex_59 (by show -2147483648 ≤ 4 * at_.toInt; omega) (by show 4 * at_.toInt < 2147483648; omega)
                                            refine lv_iconst (v := 2) hx hb dX12_choices_336 (by decide) ?_
                                            refine lv_iadd hx hb dX12_choices_337 ?_
                                            refine lv_topi (fun x_60 ex_60 => ?_)
                                            have tx_60 : x_60.toInt = x_59.toInt + 2 := v_add ex_60 (by show -2147483648 ≤ x_59.toInt + 2; omega) (by show x_59.toInt + 2 < 2147483648; omega)
                                            refine lv_iload hx hb dX12_choices_338 (lv_at hl 2 rfl) ?_
                                            obtain ⟨f_61, ef_61⟩ : ∃ g : Nat → Int32, g = upd f_58 (x_60 : Int32).toNatClampNeg r_23 := ⟨_, rfl⟩
                                            refine va_iast hx hb hK hP hD hS 6 0 rfl rfl (v_in (by omega)) dX12_choices_340 (kWf (g := f_61) (F := fun f_61 => [(oM, .inr (12, [.ref mT, .int zt, .ref mS, .ref mX, .int zp, .int zf, .ref mL, .ref mB, .ref mD, .ref m1, .ref m2, .int zh, .ref mR, .int zr, .ref x1, .ref x2, .ref x3, .int zc, .ref mH, .int zy, .int za, .int zb, .int zs, .int zq, .int (-1), .int 0, .ref mY, .int zn_21, .ref mE, .int zm_21, .int zl_21, .ref mW, .int zk_21, .ref mO, .int zd_21, .ref y1, .ref y2, .ref y3, .ref y4, .ref mZ])), (mY, .inl (cI, 2600, .inl eY_21)), (mB, .inl (cS, 131072, .inl eB)), (mL, .inl (cI, 512, .inl eL)), (mE, .inl (cI, 2600, .inl eE_21)), (mW, .inl (cI, 300, .inl eW_21)), (mH, .inl (cI, 800, .inl f_61)), (mS, .inl (cI, 21, .inl eS)), (mX, .inl (cI, 6300, .inl eX)), (x1, .inl (cI, 300, .inl ec1)), (x2, .inl (cI, 300, .inl ec2)), (x3, .inl (cI, 300, .inl ec3))]) ef_61 rfl (fun H locs hPn hDn hSn => ?_))
                                            clear hP hD hS
                                            have hP := hPn
                                            have hD := hDn
                                            have hS := hSn
                                            clear hPn hDn hSn
                                            refine lv_aload_n hx hb dX12_choices_341 rfl (lv_at hl 6 rfl) ?_
                                            refine va_get (D := (dC, dI)) (ci := 12) (v := .ref mH) (C := RX12) (T := TX12) (N := 40) hx hb hts in_X12 hown hK hP 0 rfl rfl 18 (Nat.le_of_ble_eq_true rfl) (hts (.fieldLink RX12 48 "TextMenderModel" "choices" "[I") (List.mem_of_getElem? (i := 7) rfl)) (fun _ h9 => h9) rfl dX12_choices_342 ?_
                                            refine lv_iconst (v := 4) hx hb dX12_choices_345 (by decide) ?_
                                            refine lv_iload hx hb dX12_choices_346 (lv_at hl 9 rfl) ?_
                                            refine lv_imul hx hb dX12_choices_348 ?_
                                            refine lv_topi (fun x_62 ex_62 => ?_)
                                            have tx_62 : x_62.toInt = 4 * at_.toInt := v_mul ex_62 (by show -2147483648 ≤ 4 * at_.toInt; omega) (by show 4 * at_.toInt < 2147483648; omega)
                                            refine lv_iconst (v := 3) hx hb dX12_choices_349 (by decide) ?_
                                            refine lv_iadd hx hb dX12_choices_350 ?_
                                            refine lv_topi (fun x_63 ex_63 => ?_)
                                            have tx_63 : x_63.toInt = x_62.toInt + 3 := v_add ex_63 (by show -2147483648 ≤ x_62.toInt + 3; omega) (by show x_62.toInt + 3 < 2147483648; omega)
                                            refine lv_aload_n hx hb dX12_choices_351 rfl (lv_at hl 6 rfl) ?_
                                            refine va_get (D := (dC, dI)) (ci := 12) (v := .int zk_21) (C := RX12) (T := TX12) (N := 40) hx hb hts in_X12 hown hK hP 0 rfl rfl 32 (Nat.le_of_ble_eq_true rfl) (hts (.fieldLink RX12 135 "TextMenderModel" "workMany" "I") (List.mem_of_getElem? (i := 6) rfl)) (fun _ h9 => h9) rfl dX12_choices_352 ?_
                                            obtain ⟨f_64, ef_64⟩ : ∃ g : Nat → Int32, g = upd f_61 (x_63 : Int32).toNatClampNeg zk_21 := ⟨_, rfl⟩
                                            refine va_iast hx hb hK hP hD hS 6 0 rfl rfl (v_in (by omega)) dX12_choices_355 (kWf (g := f_64) (F := fun f_64 => [(oM, .inr (12, [.ref mT, .int zt, .ref mS, .ref mX, .int zp, .int zf, .ref mL, .ref mB, .ref mD, .ref m1, .ref m2, .int zh, .ref mR, .int zr, .ref x1, .ref x2, .ref x3, .int zc, .ref mH, .int zy, .int za, .int zb, .int zs, .int zq, .int (-1), .int 0, .ref mY, .int zn_21, .ref mE, .int zm_21, .int zl_21, .ref mW, .int zk_21, .ref mO, .int zd_21, .ref y1, .ref y2, .ref y3, .ref y4, .ref mZ])), (mY, .inl (cI, 2600, .inl eY_21)), (mB, .inl (cS, 131072, .inl eB)), (mL, .inl (cI, 512, .inl eL)), (mE, .inl (cI, 2600, .inl eE_21)), (mW, .inl (cI, 300, .inl eW_21)), (mH, .inl (cI, 800, .inl f_64)), (mS, .inl (cI, 21, .inl eS)), (mX, .inl (cI, 6300, .inl eX)), (x1, .inl (cI, 300, .inl ec1)), (x2, .inl (cI, 300, .inl ec2)), (x3, .inl (cI, 300, .inl ec3))]) ef_64 rfl (fun H locs hPn hDn hSn => ?_))
                                            clear hP hD hS
                                            have hP := hPn
                                            have hD := hDn
                                            have hS := hSn
                                            clear hPn hDn hSn
                                            obtain ⟨x_65, ex_65⟩ : ∃ y : Int32, y = two + 1 := ⟨_, rfl⟩
                                            have tx_65 : x_65.toInt = two.toInt + 1 := v_addR (l2 := 1) (h2 := 1) ex_65 g_two (by decide) (by decide) (by decide)
                                            refine lv_iinc (v := x_65) (lv' := [(6, .int x_65), (9, .int k), (4, .int x_24), (7, .int r_23), (5, .int one), (3, .int r_1), (0, .ref oM), (1, .int a), (2, .int b), (8, .int at_)]) hx hb dX12_choices_356 hl (k := 3) rfl (by rw [ex_65]; rfl) (by decide) rfl (fun ls hl => ?_)
                                            refine lv_goto (tgt := 89) hx hb dX12_choices_359 (by decide) ?_
                                            exact ih_89 x_65 x_24 zn_21 zd_21 zm_21 zl_21 zk_21 eY_21 eE_21 eW_21 f_64 _ _ _ (ms_lt hm_89 (by show ((256 - x_65.toInt : Int)) < 256 - two.toInt; omega) (by show (0 : Int) < 256 - two.toInt; omega)) (by show 0 ≤ x_65.toInt ∧ x_65.toInt ≤ 256; omega) (by show 0 ≤ x_24.toInt ∧ x_24.toInt ≤ 65536; omega) (hf21_0) (hf21_2) (hf21_4) (hf21_1) (hf21_3) (hf21_5) (by show x_24.toInt ≤ 256 * one.toInt + x_65.toInt ∧ x_65.toInt ≤ 1; omega) (fld_s hfi (by rw [Nat.zero_add]; exact stp_y (vx_y (mk := 1) (o := one) (w := two) hv9 (by omega) (by omega) (Or.inl ⟨rfl, by omega, by omega⟩) hal1 (fun z9 => absurd z9 (by decide)) hcc9) (by have c8 := v_clamp (x := x_24) (by omega); omega) (rp_end hkr hsr9 (by omega) (by have q9 := m200_l n2.toNatClampNeg; have q8 := hmat9; omega) (by have q8 := hhi9; omega) (by omega) (by omega) (by omega) (by omega) ef_54 ef_58 ef_61 ef_64 (by rw [ent1.1]) (by rw [ent1.2.1]; rfl) (by rw [ent1.2.2.1]) (by rw [ent1.2.2.2]; exact hzk9) (fun i h1 h2 => by rw [ent1.2.2.1]; exact hbj i h1 h2) (by rw [ent1.2.2.1]; exact hsj))) (by rw [ix_eq (x := x_65) (N := two.toNatClampNeg + 1) (by omega)]; omega)) hP hD hS (lv_sub hl [0, 4, 2, 5, 6, 7, 8] rfl)
                                          · have tc_52 : at_.toInt < k.toInt := v_nle c_52
                                            refine lv_iconst (v := 0) hx hb dX12_choices_248 (by decide) ?_
                                            refine lv_istore (lv' := [(10, .int 0), (9, .int k), (4, .int x_24), (7, .int r_23), (6, .int two), (5, .int one), (3, .int r_1), (0, .ref oM), (1, .int a), (2, .int b), (8, .int at_)]) hx hb dX12_choices_249 hl (by decide) rfl (fun ls hl => ?_)
                                            have LOOP_251 : ∀ (k_251 : Nat) (i : Int32) (eHd : Nat → Int32) (H : Heap) (locs : List Loc) (ls : Array Slot), MSd (4 - i.toInt : Int) k_251 → (0 ≤ i.toInt ∧ i.toInt ≤ 4) → (KPI eHb eHd k.toInt (x_51.toInt) i.toInt) → va_P (dC, dI) vwCl [(oM, .inr (12, [.ref mT, .int zt, .ref mS, .ref mX, .int zp, .int zf, .ref mL, .ref mB, .ref mD, .ref m1, .ref m2, .int zh, .ref mR, .int zr, .ref x1, .ref x2, .ref x3, .int zc, .ref mH, .int zy, .int za, .int zb, .int zs, .int zq, .int (-1), .int 0, .ref mY, .int zn_21, .ref mE, .int zm_21, .int zl_21, .ref mW, .int zk_21, .ref mO, .int zd_21, .ref y1, .ref y2, .ref y3, .ref y4, .ref mZ])), (mY, .inl (cI, 2600, .inl eY_21)), (mB, .inl (cS, 131072, .inl eB)), (mL, .inl (cI, 512, .inl eL)), (mE, .inl (cI, 2600, .inl eE_21)), (mW, .inl (cI, 300, .inl eW_21)), (mH, .inl (cI, 800, .inl eHd)), (mS, .inl (cI, 21, .inl eS)), (mX, .inl (cI, 6300, .inl eX)), (x1, .inl (cI, 300, .inl ec1)), (x2, .inl (cI, 300, .inl ec2)), (x3, .inl (cI, 300, .inl ec3))] H → va_D A [(oM, .inr (12, [.ref mT, .int zt, .ref mS, .ref mX, .int zp, .int zf, .ref mL, .ref mB, .ref mD, .ref m1, .ref m2, .int zh, .ref mR, .int zr, .ref x1, .ref x2, .ref x3, .int zc, .ref mH, .int zy, .int za, .int zb, .int zs, .int zq, .int (-1), .int 0, .ref mY, .int zn_21, .ref mE, .int zm_21, .int zl_21, .ref mW, .int zk_21, .ref mO, .int zd_21, .ref y1, .ref y2, .ref y3, .ref y4, .ref mZ])), (mY, .inl (cI, 2600, .inl eY_21)), (mB, .inl (cS, 131072, .inl eB)), (mL, .inl (cI, 512, .inl eL)), (mE, .inl (cI, 2600, .inl eE_21)), (mW, .inl (cI, 300, .inl eW_21)), (mH, .inl (cI, 800, .inl eHd)), (mS, .inl (cI, 21, .inl eS)), (mX, .inl (cI, 6300, .inl eX)), (x1, .inl (cI, 300, .inl ec1)), (x2, .inl (cI, 300, .inl ec2)), (x3, .inl (cI, 300, .inl ec3))] → va_S A s.heap H locs → lv_has ls 11 [(10, .int i), (9, .int k), (4, .int x_24), (7, .int r_23), (6, .int two), (5, .int one), (3, .int r_1), (0, .ref oM), (1, .int a), (2, .int b), (8, .int at_)] → W p l e (headSpec wsX12_choices ({ frames := 4, cells := 0, slots := 0, locals := 97 } : Room)).room s m ([.ref oM, .int a, .int b] : List Value).toArray below meth c H locs 0 0 (MQ below QQ ([.ref oM, .int a, .int b] : List Value).toArray s 0 0 A) (F0 m 251 ls []) := by
                                              clear hP hD hS hl
                                              try (clear hf21_0 hf21_2 hf17_1 g_znb g_zmb g_zkb g_zna g_zma g_zka g_zy g_za g_zb g_zs g_zq g_zm g_zk hzs)
                                              intro k_251
                                              induction k_251 with
                                              | zero =>
                                                intro i eHd H locs ls hm_251 g_i hki hP hD hS hl
                                                exact ms_0 hm_251
                                              | succ k_251 ih_251 =>
                                                intro i eHd H locs ls hm_251 g_i hki hP hD hS hl
                                                refine lv_iload hx hb dX12_choices_251 (lv_at hl 0 rfl) ?_
                                                refine lv_iconst (v := 4) hx hb dX12_choices_253 (by decide) ?_
                                                refine lv_icmp_ge (tgt := 289) hx hb dX12_choices_254 (by decide) (fun c_66 => ?_) (fun c_66 => ?_)
                                                · have tc_66 : 4 ≤ i.toInt := v_le c_66
                                                  obtain ⟨x_67, ex_67⟩ : ∃ y : Int32, y = k + (-1) := ⟨_, rfl⟩
                                                  have tx_67 : x_67.toInt = k.toInt + (-1) := v_addR (l2 := (-1)) (h2 := (-1)) ex_67 g_k (by decide) (by decide) (by decide)
                                                  refine lv_iinc (v := x_67) (lv' := [(9, .int x_67), (10, .int i), (4, .int x_24), (7, .int r_23), (6, .int two), (5, .int one), (3, .int r_1), (0, .ref oM), (1, .int a), (2, .int b), (8, .int at_)]) hx hb dX12_choices_289 hl (k := 1) rfl (by rw [ex_67]; rfl) (by decide) rfl (fun ls hl => ?_)
                                                  refine lv_goto (tgt := 241) hx hb dX12_choices_292 (by decide) ?_
                                                  exact ih_241 x_67 eHd _ _ _ (ms_lt hm_241 (by show ((x_67.toInt - at_.toInt : Int)) < k.toInt - at_.toInt; omega) (by show (0 : Int) < k.toInt - at_.toInt; omega)) (by show 0 ≤ x_67.toInt ∧ x_67.toInt ≤ 199; omega) (by show at_.toInt ≤ x_67.toInt; omega) (by show x_67.toInt ≤ x_51.toInt; omega) (KPI_e hki (by omega) (by omega)) hP hD hS (lv_sub hl [0, 2, 3, 4, 5, 6, 7, 8, 9, 10] rfl)
                                                · have tc_66 : i.toInt < 4 := v_nle c_66
                                                  refine lv_aload_n hx hb dX12_choices_257 rfl (lv_at hl 7 rfl) ?_
                                                  refine va_get (D := (dC, dI)) (ci := 12) (v := .ref mH) (C := RX12) (T := TX12) (N := 40) hx hb hts in_X12 hown hK hP 0 rfl rfl 18 (Nat.le_of_ble_eq_true rfl) (hts (.fieldLink RX12 48 "TextMenderModel" "choices" "[I") (List.mem_of_getElem? (i := 7) rfl)) (fun _ h9 => h9) rfl dX12_choices_258 ?_
                                                  refine lv_iconst (v := 4) hx hb dX12_choices_261 (by decide) ?_
                                                  refine lv_iload hx hb dX12_choices_262 (lv_at hl 1 rfl) ?_
                                                  refine lv_imul hx hb dX12_choices_264 ?_
                                                  refine lv_topi (fun x_68 ex_68 => ?_)
                                                  have tx_68 : x_68.toInt = 4 * k.toInt := v_mul ex_68 (by show -2147483648 ≤ 4 * k.toInt; omega) (by show 4 * k.toInt < 2147483648; omega)
                                                  refine lv_iload hx hb dX12_choices_265 (lv_at hl 0 rfl) ?_
                                                  refine lv_iadd hx hb dX12_choices_267 ?_
                                                  refine lv_topi (fun x_69 ex_69 => ?_)
                                                  have tx_69 : x_69.toInt = x_68.toInt + i.toInt := v_add ex_69 (by show -2147483648 ≤ x_68.toInt + i.toInt; omega) (by show x_68.toInt + i.toInt < 2147483648; omega)
                                                  refine lv_aload_n hx hb dX12_choices_268 rfl (lv_at hl 7 rfl) ?_
                                                  refine va_get (D := (dC, dI)) (ci := 12) (v := .ref mH) (C := RX12) (T := TX12) (N := 40) hx hb hts in_X12 hown hK hP 0 rfl rfl 18 (Nat.le_of_ble_eq_true rfl) (hts (.fieldLink RX12 48 "TextMenderModel" "choices" "[I") (List.mem_of_getElem? (i := 7) rfl)) (fun _ h9 => h9) rfl dX12_choices_269 ?_
                                                  refine lv_iconst (v := 4) hx hb dX12_choices_272 (by decide) ?_
                                                  refine lv_iload hx hb dX12_choices_273 (lv_at hl 1 rfl) ?_
                                                  refine lv_imul hx hb dX12_choices_275 ?_
                                                  refine lv_topi (fun x_70 ex_70 => ?_)
                                                  have tx_70 : x_70.toInt = 4 * k.toInt := v_mul ex_70 (by show -2147483648 ≤ 4 * k.toInt; omega) (by show 4 * k.toInt < 2147483648; omega)
                                                  refine lv_iconst (v := 4) hx hb dX12_choices_276 (by decide) ?_
                                                  refine lv_isub hx hb dX12_choices_277 ?_
                                                  refine lv_topi (fun x_71 ex_71 => ?_)
                                                  have tx_71 : x_71.toInt = x_70.toInt - 4 := v_sub ex_71 (by show -2147483648 ≤ x_70.toInt - 4; omega) (by show x_70.toInt - 4 < 2147483648; omega)
                                                  refine lv_iload hx hb dX12_choices_278 (lv_at hl 0 rfl) ?_
                                                  refine lv_iadd hx hb dX12_choices_280 ?_
                                                  refine lv_topi (fun x_72 ex_72 => ?_)
                                                  have tx_72 : x_72.toInt = x_71.toInt + i.toInt := v_add ex_72 (by show -2147483648 ≤ x_71.toInt + i.toInt; omega) (by show x_71.toInt + i.toInt < 2147483648; omega)
                                                  refine va_iald hx hb hK hP 6 0 rfl rfl (v_in (by omega)) dX12_choices_281 ?_
                                                  refine lv_topi (fun x_73 ex_73 => ?_)
                                                  obtain ⟨f_74, ef_74⟩ : ∃ g : Nat → Int32, g = upd eHd (x_69 : Int32).toNatClampNeg x_73 := ⟨_, rfl⟩
                                                  refine va_iast hx hb hK hP hD hS 6 0 rfl rfl (v_in (by omega)) dX12_choices_282 (kWf (g := f_74) (F := fun f_74 => [(oM, .inr (12, [.ref mT, .int zt, .ref mS, .ref mX, .int zp, .int zf, .ref mL, .ref mB, .ref mD, .ref m1, .ref m2, .int zh, .ref mR, .int zr, .ref x1, .ref x2, .ref x3, .int zc, .ref mH, .int zy, .int za, .int zb, .int zs, .int zq, .int (-1), .int 0, .ref mY, .int zn_21, .ref mE, .int zm_21, .int zl_21, .ref mW, .int zk_21, .ref mO, .int zd_21, .ref y1, .ref y2, .ref y3, .ref y4, .ref mZ])), (mY, .inl (cI, 2600, .inl eY_21)), (mB, .inl (cS, 131072, .inl eB)), (mL, .inl (cI, 512, .inl eL)), (mE, .inl (cI, 2600, .inl eE_21)), (mW, .inl (cI, 300, .inl eW_21)), (mH, .inl (cI, 800, .inl f_74)), (mS, .inl (cI, 21, .inl eS)), (mX, .inl (cI, 6300, .inl eX)), (x1, .inl (cI, 300, .inl ec1)), (x2, .inl (cI, 300, .inl ec2)), (x3, .inl (cI, 300, .inl ec3))]) ef_74 rfl (fun H locs hPn hDn hSn => ?_))
                                                  clear hP hD hS
                                                  have hP := hPn
                                                  have hD := hDn
                                                  have hS := hSn
                                                  clear hPn hDn hSn
                                                  obtain ⟨x_75, ex_75⟩ : ∃ y : Int32, y = i + 1 := ⟨_, rfl⟩
                                                  have tx_75 : x_75.toInt = i.toInt + 1 := v_addR (l2 := 1) (h2 := 1) ex_75 g_i (by decide) (by decide) (by decide)
                                                  refine lv_iinc (v := x_75) (lv' := [(10, .int x_75), (9, .int k), (4, .int x_24), (7, .int r_23), (6, .int two), (5, .int one), (3, .int r_1), (0, .ref oM), (1, .int a), (2, .int b), (8, .int at_)]) hx hb dX12_choices_283 hl (k := 0) rfl (by rw [ex_75]; rfl) (by decide) rfl (fun ls hl => ?_)
                                                  refine lv_goto (tgt := 251) hx hb dX12_choices_286 (by decide) ?_
                                                  exact ih_251 x_75 f_74 _ _ _ (ms_lt hm_251 (by show ((4 - x_75.toInt : Int)) < 4 - i.toInt; omega) (by show (0 : Int) < 4 - i.toInt; omega)) (by show 0 ≤ x_75.toInt ∧ x_75.toInt ≤ 4; omega) (KPI_s (a := x_69) (c := x_72) hki (by omega) (by omega) (by omega) (by omega) ex_73 ef_74 (by omega)) hP hD hS (lv_sub hl [0, 1, 2, 3, 4, 5, 6, 7, 8, 9, 10] rfl)
                                            exact LOOP_251 _ 0 eHc _ _ _ (ms_s _) (by decide) (KPI_0 hkr rfl) hP hD hS (lv_sub hl [0, 1, 2, 3, 4, 5, 6, 7, 8, 9, 10] rfl)
                                      exact LOOP_241 _ x_51 eHb _ _ _ (ms_s _) (by show 0 ≤ x_51.toInt ∧ x_51.toInt ≤ 199; omega) (by show at_.toInt ≤ x_51.toInt; omega) (by show x_51.toInt ≤ x_51.toInt; omega) (KPR_0 rfl) hP hD hS (lv_sub hl [0, 1, 2, 3, 4, 5, 6, 7, 8, 9] rfl)
                                  · have tc_25 : at_.toInt = 200 := v_eq c_25
                                    refine lv_goto (tgt := 356) hx hb dX12_choices_218 (by decide) ?_
                                    obtain ⟨x_76, ex_76⟩ : ∃ y : Int32, y = two + 1 := ⟨_, rfl⟩
                                    have tx_76 : x_76.toInt = two.toInt + 1 := v_addR (l2 := 1) (h2 := 1) ex_76 g_two (by decide) (by decide) (by decide)
                                    refine lv_iinc (v := x_76) (lv' := [(6, .int x_76), (4, .int x_24), (7, .int r_23), (5, .int one), (3, .int r_1), (0, .ref oM), (1, .int a), (2, .int b), (8, .int at_)]) hx hb dX12_choices_356 hl (k := 2) rfl (by rw [ex_76]; rfl) (by decide) rfl (fun ls hl => ?_)
                                    refine lv_goto (tgt := 89) hx hb dX12_choices_359 (by decide) ?_
                                    exact ih_89 x_76 x_24 zn_21 zd_21 zm_21 zl_21 zk_21 eY_21 eE_21 eW_21 eHb _ _ _ (ms_lt hm_89 (by show ((256 - x_76.toInt : Int)) < 256 - two.toInt; omega) (by show (0 : Int) < 256 - two.toInt; omega)) (by show 0 ≤ x_76.toInt ∧ x_76.toInt ≤ 256; omega) (by show 0 ≤ x_24.toInt ∧ x_24.toInt ≤ 65536; omega) (hf21_0) (hf21_2) (hf21_4) (hf21_1) (hf21_3) (hf21_5) (by show x_24.toInt ≤ 256 * one.toInt + x_76.toInt ∧ x_76.toInt ≤ 1; omega) (fld_s hfi (by rw [Nat.zero_add]; exact stp_y (vx_y (mk := 1) (o := one) (w := two) hv9 (by omega) (by omega) (Or.inl ⟨rfl, by omega, by omega⟩) hal1 (fun z9 => absurd z9 (by decide)) hcc9) (by have c8 := v_clamp (x := x_24) (by omega); omega) (kp_id2 (rp_full (k1 := 200) (by rw [show (200 : Nat) = m200 n2.toNatClampNeg from (by have q9 := m2_v n2.toNatClampNeg; rw [if_neg (by omega)] at q9; omega)]; exact hsr9) (by rw [ent1.2.2.1]; exact hsj.elim (fun z9 => by omega) (fun ⟨q9, q8, q7⟩ => (show q9 = 199 by omega) ▸ q7)) rfl) (by have q9 := m2_v n2.toNatClampNeg; rw [if_neg (by omega)] at q9; omega) (by have q9 := m2_v (n2.toNatClampNeg + 1); rw [if_neg (by omega)] at q9; omega))) (by rw [ix_eq (x := x_76) (N := two.toNatClampNeg + 1) (by omega)]; omega)) hP hD hS (lv_sub hl [0, 3, 1, 4, 5, 6, 7] rfl)
                                refine lv_iload hx hb dX12_choices_162 (lv_at hl 3 rfl) ?_
                                refine lv_sipush (v := 200) hx hb dX12_choices_164 (by decide) ?_
                                refine lv_icmp_ge (tgt := 175) hx hb dX12_choices_167 (by decide) (fun c_77 => ?_) (fun c_77 => ?_)
                                · have tc_77 : 200 ≤ n2.toInt := v_le c_77
                                  refine lv_sipush (v := 200) hx hb dX12_choices_175 (by decide) ?_
                                  refine lv_istore (lv' := [(8, .int 200), (7, .int r_23), (6, .int two), (5, .int one), (4, .int n2), (3, .int r_1), (0, .ref oM), (1, .int a), (2, .int b)]) hx hb dX12_choices_178 hl (by decide) rfl (fun ls hl => ?_)
                                  have LOOP_180 : ∀ (k_180 : Nat) (at0 : Int32) (H : Heap) (locs : List Loc) (ls : Array Slot), MSd (at0.toInt : Int) k_180 → (0 ≤ at0.toInt ∧ at0.toInt ≤ 200) → (at0.toInt ≤ n2.toInt) → (∀ i : Nat, at0.toInt ≤ i → i < m200 n2.toNatClampNeg → r_23.toInt < RA4 eHb i 2) → va_P (dC, dI) vwCl [(oM, .inr (12, [.ref mT, .int zt, .ref mS, .ref mX, .int zp, .int zf, .ref mL, .ref mB, .ref mD, .ref m1, .ref m2, .int zh, .ref mR, .int zr, .ref x1, .ref x2, .ref x3, .int zc, .ref mH, .int zy, .int za, .int zb, .int zs, .int zq, .int (-1), .int 0, .ref mY, .int zn_21, .ref mE, .int zm_21, .int zl_21, .ref mW, .int zk_21, .ref mO, .int zd_21, .ref y1, .ref y2, .ref y3, .ref y4, .ref mZ])), (mY, .inl (cI, 2600, .inl eY_21)), (mB, .inl (cS, 131072, .inl eB)), (mL, .inl (cI, 512, .inl eL)), (mE, .inl (cI, 2600, .inl eE_21)), (mW, .inl (cI, 300, .inl eW_21)), (mH, .inl (cI, 800, .inl eHb)), (mS, .inl (cI, 21, .inl eS)), (mX, .inl (cI, 6300, .inl eX)), (x1, .inl (cI, 300, .inl ec1)), (x2, .inl (cI, 300, .inl ec2)), (x3, .inl (cI, 300, .inl ec3))] H → va_D A [(oM, .inr (12, [.ref mT, .int zt, .ref mS, .ref mX, .int zp, .int zf, .ref mL, .ref mB, .ref mD, .ref m1, .ref m2, .int zh, .ref mR, .int zr, .ref x1, .ref x2, .ref x3, .int zc, .ref mH, .int zy, .int za, .int zb, .int zs, .int zq, .int (-1), .int 0, .ref mY, .int zn_21, .ref mE, .int zm_21, .int zl_21, .ref mW, .int zk_21, .ref mO, .int zd_21, .ref y1, .ref y2, .ref y3, .ref y4, .ref mZ])), (mY, .inl (cI, 2600, .inl eY_21)), (mB, .inl (cS, 131072, .inl eB)), (mL, .inl (cI, 512, .inl eL)), (mE, .inl (cI, 2600, .inl eE_21)), (mW, .inl (cI, 300, .inl eW_21)), (mH, .inl (cI, 800, .inl eHb)), (mS, .inl (cI, 21, .inl eS)), (mX, .inl (cI, 6300, .inl eX)), (x1, .inl (cI, 300, .inl ec1)), (x2, .inl (cI, 300, .inl ec2)), (x3, .inl (cI, 300, .inl ec3))] → va_S A s.heap H locs → lv_has ls 11 [(8, .int at0), (7, .int r_23), (6, .int two), (5, .int one), (4, .int n2), (3, .int r_1), (0, .ref oM), (1, .int a), (2, .int b)] → W p l e (headSpec wsX12_choices ({ frames := 4, cells := 0, slots := 0, locals := 97 } : Room)).room s m ([.ref oM, .int a, .int b] : List Value).toArray below meth c H locs 0 0 (MQ below QQ ([.ref oM, .int a, .int b] : List Value).toArray s 0 0 A) (F0 m 180 ls []) := by
                                    clear hP hD hS hl
                                    try (clear hf21_0 hf21_2 hf17_1 g_znb g_zmb g_zkb g_zna g_zma g_zka g_zy g_za g_zb g_zs g_zq g_zm g_zk hzs)
                                    intro k_180
                                    induction k_180 with
                                    | zero =>
                                      intro at0 H locs ls hm_180 g_at0 hat0 hbg hP hD hS hl
                                      exact ms_0 hm_180
                                    | succ k_180 ih_180 =>
                                      intro at0 H locs ls hm_180 g_at0 hat0 hbg hP hD hS hl
                                      refine lv_iload hx hb dX12_choices_180 (lv_at hl 0 rfl) ?_
                                      refine lv_if_le (tgt := 207) hx hb dX12_choices_182 (by decide) (fun c_78 => ?_) (fun c_78 => ?_)
                                      · have tc_78 : at0.toInt ≤ 0 := v_le c_78
                                        exact JOIN_j207 at0 _ _ _ (g_at0) (by show at0.toInt ≤ n2.toInt; omega) (hbg) (Or.inl (by omega)) hP hD hS (lv_sub hl [1, 2, 3, 4, 5, 6, 7, 8, 0] rfl)
                                      · have tc_78 : 0 < at0.toInt := v_nle c_78
                                        refine lv_aload_n hx hb dX12_choices_185 rfl (lv_at hl 6 rfl) ?_
                                        refine va_get (D := (dC, dI)) (ci := 12) (v := .ref mH) (C := RX12) (T := TX12) (N := 40) hx hb hts in_X12 hown hK hP 0 rfl rfl 18 (Nat.le_of_ble_eq_true rfl) (hts (.fieldLink RX12 48 "TextMenderModel" "choices" "[I") (List.mem_of_getElem? (i := 7) rfl)) (fun _ h9 => h9) rfl dX12_choices_186 ?_
                                        refine lv_iconst (v := 4) hx hb dX12_choices_189 (by decide) ?_
                                        refine lv_iload hx hb dX12_choices_190 (lv_at hl 0 rfl) ?_
                                        refine lv_imul hx hb dX12_choices_192 ?_
                                        refine lv_topi (fun x_79 ex_79 => ?_)
                                        have tx_79 : x_79.toInt = 4 * at0.toInt := v_mul ex_79 (by show -2147483648 ≤ 4 * at0.toInt; omega) (by show 4 * at0.toInt < 2147483648; omega)
                                        refine lv_iconst (v := 2) hx hb dX12_choices_193 (by decide) ?_
                                        refine lv_isub hx hb dX12_choices_194 ?_
                                        refine lv_topi (fun x_80 ex_80 => ?_)
                                        have tx_80 : x_80.toInt = x_79.toInt - 2 := v_sub ex_80 (by show -2147483648 ≤ x_79.toInt - 2; omega) (by show x_79.toInt - 2 < 2147483648; omega)
                                        refine va_iald hx hb hK hP 6 0 rfl rfl (v_in (by omega)) dX12_choices_195 ?_
                                        refine lv_topi (fun x_81 ex_81 => ?_)
                                        refine lv_iload hx hb dX12_choices_196 (lv_at hl 1 rfl) ?_
                                        refine lv_icmp_le (tgt := 207) hx hb dX12_choices_198 (by decide) (fun c_82 => ?_) (fun c_82 => ?_)
                                        · have tc_82 : x_81.toInt ≤ r_23.toInt := v_le c_82
                                          have rw82_0 := v_rng x_81
                                          exact JOIN_j207 at0 _ _ _ (g_at0) (by show at0.toInt ≤ n2.toInt; omega) (hbg) (Or.inr ⟨(at0.toInt - 1).toNat, by omega, by show (eHb (4 * (at0.toInt - 1).toNat + 2)).toInt ≤ _; rw [← ix_eq (x := x_80) (N := 4 * (at0.toInt - 1).toNat + 2) (by omega), ← ex_81]; omega⟩) hP hD hS (lv_sub hl [1, 2, 3, 4, 5, 6, 7, 8, 0] rfl)
                                        · have tc_82 : r_23.toInt < x_81.toInt := v_nle c_82
                                          have rw82_0 := v_rng x_81
                                          obtain ⟨x_83, ex_83⟩ : ∃ y : Int32, y = at0 + (-1) := ⟨_, rfl⟩
                                          have tx_83 : x_83.toInt = at0.toInt + (-1) := v_addR (l2 := (-1)) (h2 := (-1)) ex_83 g_at0 (by decide) (by decide) (by decide)
                                          refine lv_iinc (v := x_83) (lv' := [(8, .int x_83), (7, .int r_23), (6, .int two), (5, .int one), (4, .int n2), (3, .int r_1), (0, .ref oM), (1, .int a), (2, .int b)]) hx hb dX12_choices_201 hl (k := 0) rfl (by rw [ex_83]; rfl) (by decide) rfl (fun ls hl => ?_)
                                          refine lv_goto (tgt := 180) hx hb dX12_choices_204 (by decide) ?_
                                          exact ih_180 x_83 _ _ _ (ms_lt hm_180 (by show ((x_83.toInt : Int)) < at0.toInt; omega) (by show (0 : Int) < at0.toInt; omega)) (by show 0 ≤ x_83.toInt ∧ x_83.toInt ≤ 200; omega) (by show x_83.toInt ≤ n2.toInt; omega) (fun i h1 h2 => if z9 : (i : Int) = at0.toInt - 1 then (by rw [show i = (at0.toInt - 1).toNat by omega]; show _ < (eHb (4 * (at0.toInt - 1).toNat + 2)).toInt; rw [← ix_eq (x := x_80) (N := 4 * (at0.toInt - 1).toNat + 2) (by omega), ← ex_81]; omega) else hbg i (by omega) h2) hP hD hS (lv_sub hl [0, 1, 2, 3, 4, 5, 6, 7, 8] rfl)
                                  exact LOOP_180 _ 200 _ _ _ (ms_s _) (by decide) (by show 200 ≤ n2.toInt; omega) (fun i h1 h2 => by have q9 := m200_l n2.toNatClampNeg; omega) hP hD hS (lv_sub hl [0, 1, 2, 3, 4, 5, 6, 7, 8] rfl)
                                · have tc_77 : n2.toInt < 200 := v_nle c_77
                                  refine lv_iload hx hb dX12_choices_170 (lv_at hl 3 rfl) ?_
                                  refine lv_goto (tgt := 178) hx hb dX12_choices_172 (by decide) ?_
                                  refine lv_istore (lv' := [(8, .int n2), (7, .int r_23), (6, .int two), (5, .int one), (4, .int n2), (3, .int r_1), (0, .ref oM), (1, .int a), (2, .int b)]) hx hb dX12_choices_178 hl (by decide) rfl (fun ls hl => ?_)
                                  have LOOP_180 : ∀ (k_180 : Nat) (at0 : Int32) (H : Heap) (locs : List Loc) (ls : Array Slot), MSd (at0.toInt : Int) k_180 → (0 ≤ at0.toInt ∧ at0.toInt ≤ 200) → (at0.toInt ≤ n2.toInt) → (∀ i : Nat, at0.toInt ≤ i → i < m200 n2.toNatClampNeg → r_23.toInt < RA4 eHb i 2) → va_P (dC, dI) vwCl [(oM, .inr (12, [.ref mT, .int zt, .ref mS, .ref mX, .int zp, .int zf, .ref mL, .ref mB, .ref mD, .ref m1, .ref m2, .int zh, .ref mR, .int zr, .ref x1, .ref x2, .ref x3, .int zc, .ref mH, .int zy, .int za, .int zb, .int zs, .int zq, .int (-1), .int 0, .ref mY, .int zn_21, .ref mE, .int zm_21, .int zl_21, .ref mW, .int zk_21, .ref mO, .int zd_21, .ref y1, .ref y2, .ref y3, .ref y4, .ref mZ])), (mY, .inl (cI, 2600, .inl eY_21)), (mB, .inl (cS, 131072, .inl eB)), (mL, .inl (cI, 512, .inl eL)), (mE, .inl (cI, 2600, .inl eE_21)), (mW, .inl (cI, 300, .inl eW_21)), (mH, .inl (cI, 800, .inl eHb)), (mS, .inl (cI, 21, .inl eS)), (mX, .inl (cI, 6300, .inl eX)), (x1, .inl (cI, 300, .inl ec1)), (x2, .inl (cI, 300, .inl ec2)), (x3, .inl (cI, 300, .inl ec3))] H → va_D A [(oM, .inr (12, [.ref mT, .int zt, .ref mS, .ref mX, .int zp, .int zf, .ref mL, .ref mB, .ref mD, .ref m1, .ref m2, .int zh, .ref mR, .int zr, .ref x1, .ref x2, .ref x3, .int zc, .ref mH, .int zy, .int za, .int zb, .int zs, .int zq, .int (-1), .int 0, .ref mY, .int zn_21, .ref mE, .int zm_21, .int zl_21, .ref mW, .int zk_21, .ref mO, .int zd_21, .ref y1, .ref y2, .ref y3, .ref y4, .ref mZ])), (mY, .inl (cI, 2600, .inl eY_21)), (mB, .inl (cS, 131072, .inl eB)), (mL, .inl (cI, 512, .inl eL)), (mE, .inl (cI, 2600, .inl eE_21)), (mW, .inl (cI, 300, .inl eW_21)), (mH, .inl (cI, 800, .inl eHb)), (mS, .inl (cI, 21, .inl eS)), (mX, .inl (cI, 6300, .inl eX)), (x1, .inl (cI, 300, .inl ec1)), (x2, .inl (cI, 300, .inl ec2)), (x3, .inl (cI, 300, .inl ec3))] → va_S A s.heap H locs → lv_has ls 11 [(8, .int at0), (7, .int r_23), (6, .int two), (5, .int one), (4, .int n2), (3, .int r_1), (0, .ref oM), (1, .int a), (2, .int b)] → W p l e (headSpec wsX12_choices ({ frames := 4, cells := 0, slots := 0, locals := 97 } : Room)).room s m ([.ref oM, .int a, .int b] : List Value).toArray below meth c H locs 0 0 (MQ below QQ ([.ref oM, .int a, .int b] : List Value).toArray s 0 0 A) (F0 m 180 ls []) := by
                                    clear hP hD hS hl
                                    try (clear hf21_0 hf21_2 hf17_1 g_znb g_zmb g_zkb g_zna g_zma g_zka g_zy g_za g_zb g_zs g_zq g_zm g_zk hzs)
                                    intro k_180
                                    induction k_180 with
                                    | zero =>
                                      intro at0 H locs ls hm_180 g_at0 hat0 hbg hP hD hS hl
                                      exact ms_0 hm_180
                                    | succ k_180 ih_180 =>
                                      intro at0 H locs ls hm_180 g_at0 hat0 hbg hP hD hS hl
                                      refine lv_iload hx hb dX12_choices_180 (lv_at hl 0 rfl) ?_
                                      refine lv_if_le (tgt := 207) hx hb dX12_choices_182 (by decide) (fun c_84 => ?_) (fun c_84 => ?_)
                                      · have tc_84 : at0.toInt ≤ 0 := v_le c_84
                                        exact JOIN_j207 at0 _ _ _ (g_at0) (by show at0.toInt ≤ n2.toInt; omega) (hbg) (Or.inl (by omega)) hP hD hS (lv_sub hl [1, 2, 3, 4, 5, 6, 7, 8, 0] rfl)
                                      · have tc_84 : 0 < at0.toInt := v_nle c_84
                                        refine lv_aload_n hx hb dX12_choices_185 rfl (lv_at hl 6 rfl) ?_
                                        refine va_get (D := (dC, dI)) (ci := 12) (v := .ref mH) (C := RX12) (T := TX12) (N := 40) hx hb hts in_X12 hown hK hP 0 rfl rfl 18 (Nat.le_of_ble_eq_true rfl) (hts (.fieldLink RX12 48 "TextMenderModel" "choices" "[I") (List.mem_of_getElem? (i := 7) rfl)) (fun _ h9 => h9) rfl dX12_choices_186 ?_
                                        refine lv_iconst (v := 4) hx hb dX12_choices_189 (by decide) ?_
                                        refine lv_iload hx hb dX12_choices_190 (lv_at hl 0 rfl) ?_
                                        refine lv_imul hx hb dX12_choices_192 ?_
                                        refine lv_topi (fun x_85 ex_85 => ?_)
                                        have tx_85 : x_85.toInt = 4 * at0.toInt := v_mul ex_85 (by show -2147483648 ≤ 4 * at0.toInt; omega) (by show 4 * at0.toInt < 2147483648; omega)
                                        refine lv_iconst (v := 2) hx hb dX12_choices_193 (by decide) ?_
                                        refine lv_isub hx hb dX12_choices_194 ?_
                                        refine lv_topi (fun x_86 ex_86 => ?_)
                                        have tx_86 : x_86.toInt = x_85.toInt - 2 := v_sub ex_86 (by show -2147483648 ≤ x_85.toInt - 2; omega) (by show x_85.toInt - 2 < 2147483648; omega)
                                        refine va_iald hx hb hK hP 6 0 rfl rfl (v_in (by omega)) dX12_choices_195 ?_
                                        refine lv_topi (fun x_87 ex_87 => ?_)
                                        refine lv_iload hx hb dX12_choices_196 (lv_at hl 1 rfl) ?_
                                        refine lv_icmp_le (tgt := 207) hx hb dX12_choices_198 (by decide) (fun c_88 => ?_) (fun c_88 => ?_)
                                        · have tc_88 : x_87.toInt ≤ r_23.toInt := v_le c_88
                                          have rw88_0 := v_rng x_87
                                          exact JOIN_j207 at0 _ _ _ (g_at0) (by show at0.toInt ≤ n2.toInt; omega) (hbg) (Or.inr ⟨(at0.toInt - 1).toNat, by omega, by show (eHb (4 * (at0.toInt - 1).toNat + 2)).toInt ≤ _; rw [← ix_eq (x := x_86) (N := 4 * (at0.toInt - 1).toNat + 2) (by omega), ← ex_87]; omega⟩) hP hD hS (lv_sub hl [1, 2, 3, 4, 5, 6, 7, 8, 0] rfl)
                                        · have tc_88 : r_23.toInt < x_87.toInt := v_nle c_88
                                          have rw88_0 := v_rng x_87
                                          obtain ⟨x_89, ex_89⟩ : ∃ y : Int32, y = at0 + (-1) := ⟨_, rfl⟩
                                          have tx_89 : x_89.toInt = at0.toInt + (-1) := v_addR (l2 := (-1)) (h2 := (-1)) ex_89 g_at0 (by decide) (by decide) (by decide)
                                          refine lv_iinc (v := x_89) (lv' := [(8, .int x_89), (7, .int r_23), (6, .int two), (5, .int one), (4, .int n2), (3, .int r_1), (0, .ref oM), (1, .int a), (2, .int b)]) hx hb dX12_choices_201 hl (k := 0) rfl (by rw [ex_89]; rfl) (by decide) rfl (fun ls hl => ?_)
                                          refine lv_goto (tgt := 180) hx hb dX12_choices_204 (by decide) ?_
                                          exact ih_180 x_89 _ _ _ (ms_lt hm_180 (by show ((x_89.toInt : Int)) < at0.toInt; omega) (by show (0 : Int) < at0.toInt; omega)) (by show 0 ≤ x_89.toInt ∧ x_89.toInt ≤ 200; omega) (by show x_89.toInt ≤ n2.toInt; omega) (fun i h1 h2 => if z9 : (i : Int) = at0.toInt - 1 then (by rw [show i = (at0.toInt - 1).toNat by omega]; show _ < (eHb (4 * (at0.toInt - 1).toNat + 2)).toInt; rw [← ix_eq (x := x_86) (N := 4 * (at0.toInt - 1).toNat + 2) (by omega), ← ex_87]; omega) else hbg i (by omega) h2) hP hD hS (lv_sub hl [0, 1, 2, 3, 4, 5, 6, 7, 8] rfl)
                                  exact LOOP_180 _ n2 _ _ _ (ms_s _) (by show 0 ≤ n2.toInt ∧ n2.toInt ≤ 200; omega) (by show n2.toInt ≤ n2.toInt; omega) (fun i h1 h2 => by have q9 := m200_l n2.toNatClampNeg; omega) hP hD hS (lv_sub hl [0, 1, 2, 3, 4, 5, 6, 7, 8] rfl)
                              · have tc_22 : r_21.toInt = 0 := v_eq c_22
                                refine lv_goto (tgt := 356) hx hb dX12_choices_144 (by decide) ?_
                                obtain ⟨x_90, ex_90⟩ : ∃ y : Int32, y = two + 1 := ⟨_, rfl⟩
                                have tx_90 : x_90.toInt = two.toInt + 1 := v_addR (l2 := 1) (h2 := 1) ex_90 g_two (by decide) (by decide) (by decide)
                                refine lv_iinc (v := x_90) (lv' := [(6, .int x_90), (5, .int one), (4, .int n2), (3, .int r_1), (0, .ref oM), (1, .int a), (2, .int b)]) hx hb dX12_choices_356 hl (k := 0) rfl (by rw [ex_90]; rfl) (by decide) rfl (fun ls hl => ?_)
                                refine lv_goto (tgt := 89) hx hb dX12_choices_359 (by decide) ?_
                                exact ih_89 x_90 n2 zn_21 zd_21 zm_21 zl_21 zk_21 eY_21 eE_21 eW_21 eHb _ _ _ (ms_lt hm_89 (by show ((256 - x_90.toInt : Int)) < 256 - two.toInt; omega) (by show (0 : Int) < 256 - two.toInt; omega)) (by show 0 ≤ x_90.toInt ∧ x_90.toInt ≤ 256; omega) (g_n2) (hf21_0) (hf21_2) (hf21_4) (hf21_1) (hf21_3) (hf21_5) (by show n2.toInt ≤ 256 * one.toInt + x_90.toInt ∧ x_90.toInt ≤ 1; omega) (fld_n hfi (by rw [Nat.zero_add]; exact vch_no (o := one) (w := two) (Or.inl ⟨rfl, by omega, by omega⟩) (by omega) (by omega) (Or.inr (Or.inr (ic_0 hf21_7 (by omega))))) (by rw [ix_eq (x := x_90) (N := two.toNatClampNeg + 1) (by omega)]; omega)) hP hD hS (lv_sub hl [0, 1, 2, 3, 4, 5, 6] rfl)
                      exact LOOP_89 _ 0 n zna zda zma zla zka eYa eEa eWa eHa _ _ _ (ms_s _) (by decide) (g_n) (g_zna) (g_zma) (g_zka) (g_eYa) (g_eEa) (g_eWa) (by show n.toInt ≤ 256 * one.toInt + 0 ∧ 0 ≤ 1; omega) (fld_e hfl (by have z9 : Int32.toNatClampNeg 0 = 0 := rfl; omega) rfl) hP hD hS (lv_sub hl [0, 1, 2, 3, 4, 5, 6] rfl)
                exact LOOP_78 _ 0 0 zn_10 zd zm zl_10 zk eY_10 eE eW eH _ _ _ (ms_s _) (by decide) (by decide) (hf10_0) (g_zm) (g_zk) (hf10_1) (g_eE) (g_eW) (by show 0 ≤ 256 * 0; omega) (⟨rfl, fun i hi => absurd hi (Nat.not_lt_zero _)⟩) hP hD hS (lv_sub hl [0, 1, 2, 3, 4, 5] rfl)
              · skip
                have hmk8 : mkB eX (eS 0).toInt.toNat = 2 := by omega
                have hev9 := ww_ev hf10_4 (by omega)
                refine lv_iconst (v := 0) hx hb dX12_choices_72 (by decide) ?_
                refine lv_istore (lv' := [(4, .int 0), (3, .int r_1), (0, .ref oM), (1, .int a), (2, .int b)]) hx hb dX12_choices_73 hl (by decide) rfl (fun ls hl => ?_)
                refine lv_iconst (v := 0) hx hb dX12_choices_75 (by decide) ?_
                refine lv_istore (lv' := [(5, .int 0), (4, .int 0), (3, .int r_1), (0, .ref oM), (1, .int a), (2, .int b)]) hx hb dX12_choices_76 hl (by decide) rfl (fun ls hl => ?_)
                have LOOP_78 : ∀ (k_78 : Nat) (one : Int32) (n : Int32) (zna : Int32) (zda : Int32) (zma : Int32) (zla : Int32) (zka : Int32) (eYa : Nat → Int32) (eEa : Nat → Int32) (eWa : Nat → Int32) (eHa : Nat → Int32) (H : Heap) (locs : List Loc) (ls : Array Slot), MSd (256 - one.toInt : Int) k_78 → (0 ≤ one.toInt ∧ one.toInt ≤ 256) → (0 ≤ n.toInt ∧ n.toInt ≤ 65536) → (0 ≤ zna.toInt ∧ zna.toInt ≤ 2600) → (0 ≤ zma.toInt ∧ zma.toInt ≤ 2600) → (0 ≤ zka.toInt ∧ zka.toInt ≤ 300) → (rg 0 255 eYa) → (rg 0 65535 eEa) → (rg 0 65535 eWa) → (n.toInt ≤ 256 * one.toInt) → (FLD (VX a b (fun k => eL k) (fun k => eL (256 + k)) (Br b eB) (tcR zc.toInt ec1 ec2 ec3) (eS 0).toInt.toNat eX 2) 0 0 (fun _ _ => (0 : Int)) (256 * one.toNatClampNeg) n.toNatClampNeg (RA4 eHa)) → va_P (dC, dI) vwCl [(oM, .inr (12, [.ref mT, .int zt, .ref mS, .ref mX, .int zp, .int zf, .ref mL, .ref mB, .ref mD, .ref m1, .ref m2, .int zh, .ref mR, .int zr, .ref x1, .ref x2, .ref x3, .int zc, .ref mH, .int zy, .int za, .int zb, .int zs, .int zq, .int (-1), .int 0, .ref mY, .int zna, .ref mE, .int zma, .int zla, .ref mW, .int zka, .ref mO, .int zda, .ref y1, .ref y2, .ref y3, .ref y4, .ref mZ])), (mY, .inl (cI, 2600, .inl eYa)), (mB, .inl (cS, 131072, .inl eB)), (mL, .inl (cI, 512, .inl eL)), (mE, .inl (cI, 2600, .inl eEa)), (mW, .inl (cI, 300, .inl eWa)), (mH, .inl (cI, 800, .inl eHa)), (mS, .inl (cI, 21, .inl eS)), (mX, .inl (cI, 6300, .inl eX)), (x1, .inl (cI, 300, .inl ec1)), (x2, .inl (cI, 300, .inl ec2)), (x3, .inl (cI, 300, .inl ec3))] H → va_D A [(oM, .inr (12, [.ref mT, .int zt, .ref mS, .ref mX, .int zp, .int zf, .ref mL, .ref mB, .ref mD, .ref m1, .ref m2, .int zh, .ref mR, .int zr, .ref x1, .ref x2, .ref x3, .int zc, .ref mH, .int zy, .int za, .int zb, .int zs, .int zq, .int (-1), .int 0, .ref mY, .int zna, .ref mE, .int zma, .int zla, .ref mW, .int zka, .ref mO, .int zda, .ref y1, .ref y2, .ref y3, .ref y4, .ref mZ])), (mY, .inl (cI, 2600, .inl eYa)), (mB, .inl (cS, 131072, .inl eB)), (mL, .inl (cI, 512, .inl eL)), (mE, .inl (cI, 2600, .inl eEa)), (mW, .inl (cI, 300, .inl eWa)), (mH, .inl (cI, 800, .inl eHa)), (mS, .inl (cI, 21, .inl eS)), (mX, .inl (cI, 6300, .inl eX)), (x1, .inl (cI, 300, .inl ec1)), (x2, .inl (cI, 300, .inl ec2)), (x3, .inl (cI, 300, .inl ec3))] → va_S A s.heap H locs → lv_has ls 11 [(5, .int one), (4, .int n), (3, .int r_1), (0, .ref oM), (1, .int a), (2, .int b)] → W p l e (headSpec wsX12_choices ({ frames := 4, cells := 0, slots := 0, locals := 97 } : Room)).room s m ([.ref oM, .int a, .int b] : List Value).toArray below meth c H locs 0 0 (MQ below QQ ([.ref oM, .int a, .int b] : List Value).toArray s 0 0 A) (F0 m 78 ls []) := by
                  clear hP hD hS hl
                  try (clear g_zm g_zk)
                  intro k_78
                  induction k_78 with
                  | zero =>
                    intro one n zna zda zma zla zka eYa eEa eWa eHa H locs ls hm_78 g_one g_n g_zna g_zma g_zka g_eYa g_eEa g_eWa hn1 hfl hP hD hS hl
                    exact ms_0 hm_78
                  | succ k_78 ih_78 =>
                    intro one n zna zda zma zla zka eYa eEa eWa eHa H locs ls hm_78 g_one g_n g_zna g_zma g_zka g_eYa g_eEa g_eWa hn1 hfl hP hD hS hl
                    refine lv_iload hx hb dX12_choices_78 (lv_at hl 0 rfl) ?_
                    refine lv_sipush (v := 256) hx hb dX12_choices_80 (by decide) ?_
                    refine lv_icmp_ge (tgt := 368) hx hb dX12_choices_83 (by decide) (fun c_91 => ?_) (fun c_91 => ?_)
                    · have tc_91 : 256 ≤ one.toInt := v_le c_91
                      refine lv_aload_n hx hb dX12_choices_368 rfl (lv_at hl 3 rfl) ?_
                      refine lv_iload hx hb dX12_choices_369 (lv_at hl 1 rfl) ?_
                      refine va_put (D := (dC, dI)) (ci := 12) (v := .int n) (ty := .int) (C := RX12) (T := TX12) (N := 40) hx hb hts in_X12 tyX12 tyX12_ok nmX12 hown hK hP hD hS 0 rfl rfl 19 (Nat.le_of_ble_eq_true rfl) (hts (.fieldLink RX12 213 "TextMenderModel" "choiceMany" "I") (List.mem_of_getElem? (i := 8) rfl)) (fun _ h9 => h9) rfl (tyX12_ok 19 (Nat.le_of_ble_eq_true rfl)) rfl rfl (Nat.le_of_ble_eq_true rfl) dX12_choices_371 (kW (wn := [(oM, .inr (12, [.ref mT, .int zt, .ref mS, .ref mX, .int zp, .int zf, .ref mL, .ref mB, .ref mD, .ref m1, .ref m2, .int zh, .ref mR, .int zr, .ref x1, .ref x2, .ref x3, .int zc, .ref mH, .int n, .int za, .int zb, .int zs, .int zq, .int (-1), .int 0, .ref mY, .int zna, .ref mE, .int zma, .int zla, .ref mW, .int zka, .ref mO, .int zda, .ref y1, .ref y2, .ref y3, .ref y4, .ref mZ])), (mY, .inl (cI, 2600, .inl eYa)), (mB, .inl (cS, 131072, .inl eB)), (mL, .inl (cI, 512, .inl eL)), (mE, .inl (cI, 2600, .inl eEa)), (mW, .inl (cI, 300, .inl eWa)), (mH, .inl (cI, 800, .inl eHa)), (mS, .inl (cI, 21, .inl eS)), (mX, .inl (cI, 6300, .inl eX)), (x1, .inl (cI, 300, .inl ec1)), (x2, .inl (cI, 300, .inl ec2)), (x3, .inl (cI, 300, .inl ec3))]) rfl (fun H locs hPn hDn hSn => ?_))
                      clear hP hD hS
                      have hP := hPn
                      have hD := hDn
                      have hS := hSn
                      clear hPn hDn hSn
                      refine lv_aload_n hx hb dX12_choices_374 rfl (lv_at hl 3 rfl) ?_
                      refine lv_iload_n hx hb dX12_choices_375 rfl (lv_at hl 4 rfl) ?_
                      refine va_put (D := (dC, dI)) (ci := 12) (v := .int a) (ty := .int) (C := RX12) (T := TX12) (N := 40) hx hb hts in_X12 tyX12 tyX12_ok nmX12 hown hK hP hD hS 0 rfl rfl 20 (Nat.le_of_ble_eq_true rfl) (hts (.fieldLink RX12 216 "TextMenderModel" "choiceA" "I") (List.mem_of_getElem? (i := 9) rfl)) (fun _ h9 => h9) rfl (tyX12_ok 20 (Nat.le_of_ble_eq_true rfl)) rfl rfl (Nat.le_of_ble_eq_true rfl) dX12_choices_376 (kW (wn := [(oM, .inr (12, [.ref mT, .int zt, .ref mS, .ref mX, .int zp, .int zf, .ref mL, .ref mB, .ref mD, .ref m1, .ref m2, .int zh, .ref mR, .int zr, .ref x1, .ref x2, .ref x3, .int zc, .ref mH, .int n, .int a, .int zb, .int zs, .int zq, .int (-1), .int 0, .ref mY, .int zna, .ref mE, .int zma, .int zla, .ref mW, .int zka, .ref mO, .int zda, .ref y1, .ref y2, .ref y3, .ref y4, .ref mZ])), (mY, .inl (cI, 2600, .inl eYa)), (mB, .inl (cS, 131072, .inl eB)), (mL, .inl (cI, 512, .inl eL)), (mE, .inl (cI, 2600, .inl eEa)), (mW, .inl (cI, 300, .inl eWa)), (mH, .inl (cI, 800, .inl eHa)), (mS, .inl (cI, 21, .inl eS)), (mX, .inl (cI, 6300, .inl eX)), (x1, .inl (cI, 300, .inl ec1)), (x2, .inl (cI, 300, .inl ec2)), (x3, .inl (cI, 300, .inl ec3))]) rfl (fun H locs hPn hDn hSn => ?_))
                      clear hP hD hS
                      have hP := hPn
                      have hD := hDn
                      have hS := hSn
                      clear hPn hDn hSn
                      refine lv_aload_n hx hb dX12_choices_379 rfl (lv_at hl 3 rfl) ?_
                      refine lv_iload_n hx hb dX12_choices_380 rfl (lv_at hl 5 rfl) ?_
                      refine va_put (D := (dC, dI)) (ci := 12) (v := .int b) (ty := .int) (C := RX12) (T := TX12) (N := 40) hx hb hts in_X12 tyX12 tyX12_ok nmX12 hown hK hP hD hS 0 rfl rfl 21 (Nat.le_of_ble_eq_true rfl) (hts (.fieldLink RX12 219 "TextMenderModel" "choiceB" "I") (List.mem_of_getElem? (i := 10) rfl)) (fun _ h9 => h9) rfl (tyX12_ok 21 (Nat.le_of_ble_eq_true rfl)) rfl rfl (Nat.le_of_ble_eq_true rfl) dX12_choices_381 (kW (wn := [(oM, .inr (12, [.ref mT, .int zt, .ref mS, .ref mX, .int zp, .int zf, .ref mL, .ref mB, .ref mD, .ref m1, .ref m2, .int zh, .ref mR, .int zr, .ref x1, .ref x2, .ref x3, .int zc, .ref mH, .int n, .int a, .int b, .int zs, .int zq, .int (-1), .int 0, .ref mY, .int zna, .ref mE, .int zma, .int zla, .ref mW, .int zka, .ref mO, .int zda, .ref y1, .ref y2, .ref y3, .ref y4, .ref mZ])), (mY, .inl (cI, 2600, .inl eYa)), (mB, .inl (cS, 131072, .inl eB)), (mL, .inl (cI, 512, .inl eL)), (mE, .inl (cI, 2600, .inl eEa)), (mW, .inl (cI, 300, .inl eWa)), (mH, .inl (cI, 800, .inl eHa)), (mS, .inl (cI, 21, .inl eS)), (mX, .inl (cI, 6300, .inl eX)), (x1, .inl (cI, 300, .inl ec1)), (x2, .inl (cI, 300, .inl ec2)), (x3, .inl (cI, 300, .inl ec3))]) rfl (fun H locs hPn hDn hSn => ?_))
                      clear hP hD hS
                      have hP := hPn
                      have hD := hDn
                      have hS := hSn
                      clear hPn hDn hSn
                      refine lv_aload_n hx hb dX12_choices_384 rfl (lv_at hl 3 rfl) ?_
                      refine lv_aload_n hx hb dX12_choices_385 rfl (lv_at hl 3 rfl) ?_
                      refine va_get (D := (dC, dI)) (ci := 12) (v := .int zs) (C := RX12) (T := TX12) (N := 40) hx hb hts in_X12 hown hK hP 0 rfl rfl 22 (Nat.le_of_ble_eq_true rfl) (hts (.fieldLink RX12 148 "TextMenderModel" "state" "I") (List.mem_of_getElem? (i := 11) rfl)) (fun _ h9 => h9) rfl dX12_choices_386 ?_
                      refine va_put (D := (dC, dI)) (ci := 12) (v := .int zs) (ty := .int) (C := RX12) (T := TX12) (N := 40) hx hb hts in_X12 tyX12 tyX12_ok nmX12 hown hK hP hD hS 0 rfl rfl 23 (Nat.le_of_ble_eq_true rfl) (hts (.fieldLink RX12 51 "TextMenderModel" "choiceState" "I") (List.mem_of_getElem? (i := 12) rfl)) (fun _ h9 => h9) rfl (tyX12_ok 23 (Nat.le_of_ble_eq_true rfl)) rfl rfl (Nat.le_of_ble_eq_true rfl) dX12_choices_389 (kW (wn := [(oM, .inr (12, [.ref mT, .int zt, .ref mS, .ref mX, .int zp, .int zf, .ref mL, .ref mB, .ref mD, .ref m1, .ref m2, .int zh, .ref mR, .int zr, .ref x1, .ref x2, .ref x3, .int zc, .ref mH, .int n, .int a, .int b, .int zs, .int zs, .int (-1), .int 0, .ref mY, .int zna, .ref mE, .int zma, .int zla, .ref mW, .int zka, .ref mO, .int zda, .ref y1, .ref y2, .ref y3, .ref y4, .ref mZ])), (mY, .inl (cI, 2600, .inl eYa)), (mB, .inl (cS, 131072, .inl eB)), (mL, .inl (cI, 512, .inl eL)), (mE, .inl (cI, 2600, .inl eEa)), (mW, .inl (cI, 300, .inl eWa)), (mH, .inl (cI, 800, .inl eHa)), (mS, .inl (cI, 21, .inl eS)), (mX, .inl (cI, 6300, .inl eX)), (x1, .inl (cI, 300, .inl ec1)), (x2, .inl (cI, 300, .inl ec2)), (x3, .inl (cI, 300, .inl ec3))]) rfl (fun H locs hPn hDn hSn => ?_))
                      clear hP hD hS
                      have hP := hPn
                      have hD := hDn
                      have hS := hSn
                      clear hPn hDn hSn
                      refine lv_iload hx hb dX12_choices_392 (lv_at hl 1 rfl) ?_
                      exact kl_i (v := n) hQQ hx hb hr hlocks hS dX12_choices_394 (fun PZ9 kZ9 => kZ9 0 (-1) n a b zs eHa zna eYa zda zma zla eEa zka eWa (⟨hP, hD⟩) (g_n) (by omega) (by omega) (v_rr g_zs (by decide) (by decide)) (g_zna) (g_eYa) (g_zma) (g_eEa) (g_zka) (g_eWa) (Or.inl ⟨⟨by unfold okd; omega, by unfold okd; omega, by omega, by omega, hev9⟩, (by rw [hmk8, if_neg (by decide)]; exact fld_e hfl (by have c8 := v_clamp (x := one) (by omega); omega) rfl), by omega, by omega, rfl, rfl, rfl, rfl⟩))
                    · have tc_91 : one.toInt < 256 := v_nle c_91
                      have c19 := v_clamp (x := one) (by omega)
                      refine lv_iconst (v := 0) hx hb dX12_choices_86 (by decide) ?_
                      refine lv_istore (lv' := [(6, .int 0), (5, .int one), (4, .int n), (3, .int r_1), (0, .ref oM), (1, .int a), (2, .int b)]) hx hb dX12_choices_87 hl (by decide) rfl (fun ls hl => ?_)
                      have LOOP_89 : ∀ (k_89 : Nat) (two : Int32) (n2 : Int32) (znb : Int32) (zdb : Int32) (zmb : Int32) (zlb : Int32) (zkb : Int32) (eYb : Nat → Int32) (eEb : Nat → Int32) (eWb : Nat → Int32) (eHb : Nat → Int32) (H : Heap) (locs : List Loc) (ls : Array Slot), MSd (256 - two.toInt : Int) k_89 → (0 ≤ two.toInt ∧ two.toInt ≤ 256) → (0 ≤ n2.toInt ∧ n2.toInt ≤ 65536) → (0 ≤ znb.toInt ∧ znb.toInt ≤ 2600) → (0 ≤ zmb.toInt ∧ zmb.toInt ≤ 2600) → (0 ≤ zkb.toInt ∧ zkb.toInt ≤ 300) → (rg 0 255 eYb) → (rg 0 65535 eEb) → (rg 0 65535 eWb) → (n2.toInt ≤ 256 * one.toInt + two.toInt) → (FLD (VX a b (fun k => eL k) (fun k => eL (256 + k)) (Br b eB) (tcR zc.toInt ec1 ec2 ec3) (eS 0).toInt.toNat eX 2) 0 0 (fun _ _ => (0 : Int)) (256 * one.toNatClampNeg + two.toNatClampNeg) n2.toNatClampNeg (RA4 eHb)) → va_P (dC, dI) vwCl [(oM, .inr (12, [.ref mT, .int zt, .ref mS, .ref mX, .int zp, .int zf, .ref mL, .ref mB, .ref mD, .ref m1, .ref m2, .int zh, .ref mR, .int zr, .ref x1, .ref x2, .ref x3, .int zc, .ref mH, .int zy, .int za, .int zb, .int zs, .int zq, .int (-1), .int 0, .ref mY, .int znb, .ref mE, .int zmb, .int zlb, .ref mW, .int zkb, .ref mO, .int zdb, .ref y1, .ref y2, .ref y3, .ref y4, .ref mZ])), (mY, .inl (cI, 2600, .inl eYb)), (mB, .inl (cS, 131072, .inl eB)), (mL, .inl (cI, 512, .inl eL)), (mE, .inl (cI, 2600, .inl eEb)), (mW, .inl (cI, 300, .inl eWb)), (mH, .inl (cI, 800, .inl eHb)), (mS, .inl (cI, 21, .inl eS)), (mX, .inl (cI, 6300, .inl eX)), (x1, .inl (cI, 300, .inl ec1)), (x2, .inl (cI, 300, .inl ec2)), (x3, .inl (cI, 300, .inl ec3))] H → va_D A [(oM, .inr (12, [.ref mT, .int zt, .ref mS, .ref mX, .int zp, .int zf, .ref mL, .ref mB, .ref mD, .ref m1, .ref m2, .int zh, .ref mR, .int zr, .ref x1, .ref x2, .ref x3, .int zc, .ref mH, .int zy, .int za, .int zb, .int zs, .int zq, .int (-1), .int 0, .ref mY, .int znb, .ref mE, .int zmb, .int zlb, .ref mW, .int zkb, .ref mO, .int zdb, .ref y1, .ref y2, .ref y3, .ref y4, .ref mZ])), (mY, .inl (cI, 2600, .inl eYb)), (mB, .inl (cS, 131072, .inl eB)), (mL, .inl (cI, 512, .inl eL)), (mE, .inl (cI, 2600, .inl eEb)), (mW, .inl (cI, 300, .inl eWb)), (mH, .inl (cI, 800, .inl eHb)), (mS, .inl (cI, 21, .inl eS)), (mX, .inl (cI, 6300, .inl eX)), (x1, .inl (cI, 300, .inl ec1)), (x2, .inl (cI, 300, .inl ec2)), (x3, .inl (cI, 300, .inl ec3))] → va_S A s.heap H locs → lv_has ls 11 [(6, .int two), (5, .int one), (4, .int n2), (3, .int r_1), (0, .ref oM), (1, .int a), (2, .int b)] → W p l e (headSpec wsX12_choices ({ frames := 4, cells := 0, slots := 0, locals := 97 } : Room)).room s m ([.ref oM, .int a, .int b] : List Value).toArray below meth c H locs 0 0 (MQ below QQ ([.ref oM, .int a, .int b] : List Value).toArray s 0 0 A) (F0 m 89 ls []) := by
                        clear hP hD hS hl
                        try (clear g_zna g_zma g_zka g_zm g_zk hzs)
                        intro k_89
                        induction k_89 with
                        | zero =>
                          intro two n2 znb zdb zmb zlb zkb eYb eEb eWb eHb H locs ls hm_89 g_two g_n2 g_znb g_zmb g_zkb g_eYb g_eEb g_eWb hn2 hfi hP hD hS hl
                          exact ms_0 hm_89
                        | succ k_89 ih_89 =>
                          intro two n2 znb zdb zmb zlb zkb eYb eEb eWb eHb H locs ls hm_89 g_two g_n2 g_znb g_zmb g_zkb g_eYb g_eEb g_eWb hn2 hfi hP hD hS hl
                          refine lv_iload hx hb dX12_choices_89 (lv_at hl 0 rfl) ?_
                          refine lv_iload_n hx hb dX12_choices_91 rfl (lv_at hl 3 rfl) ?_
                          refine lv_iconst (v := 1) hx hb dX12_choices_92 (by decide) ?_
                          refine lv_icmp_ne (tgt := 100) hx hb dX12_choices_93 (by decide) (fun c_92 => ?_) (fun c_92 => by exfalso; have tc_92 : r_1.toInt = 1 := v_eq c_92; omega)
                          have tc_92 : ¬ r_1.toInt = 1 := v_ne c_92
                          refine lv_sipush (v := 256) hx hb dX12_choices_100 (by decide) ?_
                          refine lv_icmp_ge (tgt := 362) hx hb dX12_choices_103 (by decide) (fun c_93 => ?_) (fun c_93 => ?_)
                          · have tc_93 : 256 ≤ two.toInt := v_le c_93
                            obtain ⟨x_94, ex_94⟩ : ∃ y : Int32, y = one + 1 := ⟨_, rfl⟩
                            have tx_94 : x_94.toInt = one.toInt + 1 := v_addR (l2 := 1) (h2 := 1) ex_94 g_one (by decide) (by decide) (by decide)
                            refine lv_iinc (v := x_94) (lv' := [(5, .int x_94), (6, .int two), (4, .int n2), (3, .int r_1), (0, .ref oM), (1, .int a), (2, .int b)]) hx hb dX12_choices_362 hl (k := 1) rfl (by rw [ex_94]; rfl) (by decide) rfl (fun ls hl => ?_)
                            refine lv_goto (tgt := 78) hx hb dX12_choices_365 (by decide) ?_
                            exact ih_78 x_94 n2 znb zdb zmb zlb zkb eYb eEb eWb eHb _ _ _ (ms_lt hm_78 (by show ((256 - x_94.toInt : Int)) < 256 - one.toInt; omega) (by show (0 : Int) < 256 - one.toInt; omega)) (by show 0 ≤ x_94.toInt ∧ x_94.toInt ≤ 256; omega) (g_n2) (g_znb) (g_zmb) (g_zkb) (g_eYb) (g_eEb) (g_eWb) (by show n2.toInt ≤ 256 * x_94.toInt; omega) (fld_e hfi (by rw [ix_eq (x := x_94) (N := one.toNatClampNeg + 1) (by omega)]; have c29 := v_clamp (x := two) (by omega); omega) rfl) hP hD hS (lv_sub hl [0, 2, 3, 4, 5, 6] rfl)
                          · have tc_93 : two.toInt < 256 := v_nle c_93
                            have c29 := v_clamp (x := two) (by omega)
                            have cn29 := v_clamp (x := n2) (by omega)
                            refine lv_aload_n hx hb dX12_choices_106 rfl (lv_at hl 4 rfl) ?_
                            refine lv_iload_n hx hb dX12_choices_107 rfl (lv_at hl 6 rfl) ?_
                            refine lv_iload hx hb dX12_choices_108 (lv_at hl 1 rfl) ?_
                            refine kV_i (rest := []) (q0 := 0) (ci := 12) hcf (f_X12_isAlone l dC dI cI cS H.size oM mT mS mX mL mB mD m1 m2 mR x1 x2 x3 mH mY mE mW mO y1 y2 y3 y4 mZ zt zp zf zh zr zc zy za zb zs zq (-1) 0 znb zmb zlb zkb zdb eYb eL b one (g_zt) (g_zp) (g_zf) (g_zh) (g_zr) (g_zc) (g_zy) (g_za) (g_zb) (g_zs) (g_zq) (g_znb) (g_zmb) (g_zkb) (g_eYb) (g_eL) (by omega) (by omega)) kc_X12_isAlone gX12_choices_X12_isAlone rfl rfl rfl ⟨Nat.le_of_ble_eq_true rfl, Nat.le_of_ble_eq_true rfl⟩ kX_t hK hP hD hS hA (posT mk_190 0) (posF mk_190 0) (kC_of mk_190 rfl rfl) (by decide +kernel) rfl rfl rfl hl rfl (Nat.le_of_ble_eq_true rfl) dX12_choices_110 ⟨Nat.le_of_ble_eq_true rfl, Nat.le_of_ble_eq_true rfl⟩ (fun r_95 H locs hB hJ hSn => ?_)
                            refine hB _ (fun eY_95 zn_95 zd_95 hPD9 hf95_0 hf95_1 hf95_2 hf95_3 => ?_)
                            clear hB
                            obtain ⟨hPn, hDn⟩ := kJi (m := mk_190) hJ rfl hPD9.1 hPD9.2 (wn := [(oM, .inr (12, [.ref mT, .int zt, .ref mS, .ref mX, .int zp, .int zf, .ref mL, .ref mB, .ref mD, .ref m1, .ref m2, .int zh, .ref mR, .int zr, .ref x1, .ref x2, .ref x3, .int zc, .ref mH, .int zy, .int za, .int zb, .int zs, .int zq, .int (-1), .int 0, .ref mY, .int zn_95, .ref mE, .int zmb, .int zlb, .ref mW, .int zkb, .ref mO, .int zd_95, .ref y1, .ref y2, .ref y3, .ref y4, .ref mZ])), (mY, .inl (cI, 2600, .inl eY_95)), (mB, .inl (cS, 131072, .inl eB)), (mL, .inl (cI, 512, .inl eL)), (mE, .inl (cI, 2600, .inl eEb)), (mW, .inl (cI, 300, .inl eWb)), (mH, .inl (cI, 800, .inl eHb)), (mS, .inl (cI, 21, .inl eS)), (mX, .inl (cI, 6300, .inl eX)), (x1, .inl (cI, 300, .inl ec1)), (x2, .inl (cI, 300, .inl ec2)), (x3, .inl (cI, 300, .inl ec3))]) rfl
                            clear hP hD hS hJ hPD9
                            have hP := hPn
                            have hD := hDn
                            have hS := hSn
                            clear hPn hDn hSn
                            refine lv_if_ne (tgt := 356) hx hb dX12_choices_113 (by decide) (fun c_96 => ?_) (fun c_96 => ?_)
                            · have tc_96 : ¬ r_95.toInt = 0 := v_ne c_96
                              obtain ⟨x_97, ex_97⟩ : ∃ y : Int32, y = two + 1 := ⟨_, rfl⟩
                              have tx_97 : x_97.toInt = two.toInt + 1 := v_addR (l2 := 1) (h2 := 1) ex_97 g_two (by decide) (by decide) (by decide)
                              refine lv_iinc (v := x_97) (lv' := [(6, .int x_97), (5, .int one), (4, .int n2), (3, .int r_1), (0, .ref oM), (1, .int a), (2, .int b)]) hx hb dX12_choices_356 hl (k := 0) rfl (by rw [ex_97]; rfl) (by decide) rfl (fun ls hl => ?_)
                              refine lv_goto (tgt := 89) hx hb dX12_choices_359 (by decide) ?_
                              exact ih_89 x_97 n2 zn_95 zd_95 zmb zlb zkb eY_95 eEb eWb eHb _ _ _ (ms_lt hm_89 (by show ((256 - x_97.toInt : Int)) < 256 - two.toInt; omega) (by show (0 : Int) < 256 - two.toInt; omega)) (by show 0 ≤ x_97.toInt ∧ x_97.toInt ≤ 256; omega) (g_n2) (hf95_1) (g_zmb) (g_zkb) (hf95_0) (g_eEb) (g_eWb) (by show n2.toInt ≤ 256 * one.toInt + x_97.toInt; omega) (fld_n hfi (by rw [Nat.zero_add]; exact vch_no (o := one) (w := two) (Or.inr ⟨rfl, by omega⟩) (by omega) (by omega) (Or.inl (cb_a1 hf95_3 (by omega)))) (by rw [ix_eq (x := x_97) (N := two.toNatClampNeg + 1) (by omega)]; omega)) hP hD hS (lv_sub hl [0, 1, 2, 3, 4, 5, 6] rfl)
                            · have tc_96 : r_95.toInt = 0 := v_eq c_96
                              have hal1 := cb_a0 hf95_3 (by omega)
                              refine lv_iload_n hx hb dX12_choices_116 rfl (lv_at hl 3 rfl) ?_
                              refine lv_iconst (v := 2) hx hb dX12_choices_117 (by decide) ?_
                              refine lv_icmp_ne (tgt := 131) hx hb dX12_choices_118 (by decide) (fun c_98 => by exfalso; have tc_98 : ¬ r_1.toInt = 2 := v_ne c_98; omega) (fun c_98 => ?_)
                              have tc_98 : r_1.toInt = 2 := v_eq c_98
                              refine lv_aload_n hx hb dX12_choices_121 rfl (lv_at hl 4 rfl) ?_
                              refine lv_iload_n hx hb dX12_choices_122 rfl (lv_at hl 6 rfl) ?_
                              refine lv_iload hx hb dX12_choices_123 (lv_at hl 0 rfl) ?_
                              refine kV_i (rest := []) (q0 := 0) (ci := 12) hcf (f_X12_isAlone l dC dI cI cS H.size oM mT mS mX mL mB mD m1 m2 mR x1 x2 x3 mH mY mE mW mO y1 y2 y3 y4 mZ zt zp zf zh zr zc zy za zb zs zq (-1) 0 zn_95 zmb zlb zkb zd_95 eY_95 eL b two (g_zt) (g_zp) (g_zf) (g_zh) (g_zr) (g_zc) (g_zy) (g_za) (g_zb) (g_zs) (g_zq) (hf95_1) (g_zmb) (g_zkb) (hf95_0) (g_eL) (by omega) (by omega)) kc_X12_isAlone gX12_choices_X12_isAlone rfl rfl rfl ⟨Nat.le_of_ble_eq_true rfl, Nat.le_of_ble_eq_true rfl⟩ kX_t hK hP hD hS hA (posT mk_190 0) (posF mk_190 0) (kC_of mk_190 rfl rfl) (by decide +kernel) rfl rfl rfl hl rfl (Nat.le_of_ble_eq_true rfl) dX12_choices_125 ⟨Nat.le_of_ble_eq_true rfl, Nat.le_of_ble_eq_true rfl⟩ (fun r_99 H locs hB hJ hSn => ?_)
                              refine hB _ (fun eY_99 zn_99 zd_99 hPD9 hf99_0 hf99_1 hf99_2 hf99_3 => ?_)
                              clear hB
                              obtain ⟨hPn, hDn⟩ := kJi (m := mk_190) hJ rfl hPD9.1 hPD9.2 (wn := [(oM, .inr (12, [.ref mT, .int zt, .ref mS, .ref mX, .int zp, .int zf, .ref mL, .ref mB, .ref mD, .ref m1, .ref m2, .int zh, .ref mR, .int zr, .ref x1, .ref x2, .ref x3, .int zc, .ref mH, .int zy, .int za, .int zb, .int zs, .int zq, .int (-1), .int 0, .ref mY, .int zn_99, .ref mE, .int zmb, .int zlb, .ref mW, .int zkb, .ref mO, .int zd_99, .ref y1, .ref y2, .ref y3, .ref y4, .ref mZ])), (mY, .inl (cI, 2600, .inl eY_99)), (mB, .inl (cS, 131072, .inl eB)), (mL, .inl (cI, 512, .inl eL)), (mE, .inl (cI, 2600, .inl eEb)), (mW, .inl (cI, 300, .inl eWb)), (mH, .inl (cI, 800, .inl eHb)), (mS, .inl (cI, 21, .inl eS)), (mX, .inl (cI, 6300, .inl eX)), (x1, .inl (cI, 300, .inl ec1)), (x2, .inl (cI, 300, .inl ec2)), (x3, .inl (cI, 300, .inl ec3))]) rfl
                              clear hP hD hS hJ hPD9
                              have hP := hPn
                              have hD := hDn
                              have hS := hSn
                              clear hPn hDn hSn
                              refine lv_if_ne (tgt := 356) hx hb dX12_choices_128 (by decide) (fun c_100 => ?_) (fun c_100 => ?_)
                              · have tc_100 : ¬ r_99.toInt = 0 := v_ne c_100
                                obtain ⟨x_101, ex_101⟩ : ∃ y : Int32, y = two + 1 := ⟨_, rfl⟩
                                have tx_101 : x_101.toInt = two.toInt + 1 := v_addR (l2 := 1) (h2 := 1) ex_101 g_two (by decide) (by decide) (by decide)
                                refine lv_iinc (v := x_101) (lv' := [(6, .int x_101), (5, .int one), (4, .int n2), (3, .int r_1), (0, .ref oM), (1, .int a), (2, .int b)]) hx hb dX12_choices_356 hl (k := 0) rfl (by rw [ex_101]; rfl) (by decide) rfl (fun ls hl => ?_)
                                refine lv_goto (tgt := 89) hx hb dX12_choices_359 (by decide) ?_
                                exact ih_89 x_101 n2 zn_99 zd_99 zmb zlb zkb eY_99 eEb eWb eHb _ _ _ (ms_lt hm_89 (by show ((256 - x_101.toInt : Int)) < 256 - two.toInt; omega) (by show (0 : Int) < 256 - two.toInt; omega)) (by show 0 ≤ x_101.toInt ∧ x_101.toInt ≤ 256; omega) (g_n2) (hf99_1) (g_zmb) (g_zkb) (hf99_0) (g_eEb) (g_eWb) (by show n2.toInt ≤ 256 * one.toInt + x_101.toInt; omega) (fld_n hfi (by rw [Nat.zero_add]; exact vch_no (o := one) (w := two) (Or.inr ⟨rfl, by omega⟩) (by omega) (by omega) (Or.inr (Or.inl ⟨rfl, (cb_a1 hf99_3 (by omega))⟩))) (by rw [ix_eq (x := x_101) (N := two.toNatClampNeg + 1) (by omega)]; omega)) hP hD hS (lv_sub hl [0, 1, 2, 3, 4, 5, 6] rfl)
                              · have tc_100 : r_99.toInt = 0 := v_eq c_100
                                have hal2 := cb_a0 hf99_3 (by omega)
                                refine lv_aload_n hx hb dX12_choices_131 rfl (lv_at hl 4 rfl) ?_
                                refine lv_iload_n hx hb dX12_choices_132 rfl (lv_at hl 5 rfl) ?_
                                refine lv_iload_n hx hb dX12_choices_133 rfl (lv_at hl 6 rfl) ?_
                                refine lv_iload hx hb dX12_choices_134 (lv_at hl 1 rfl) ?_
                                refine lv_iload hx hb dX12_choices_136 (lv_at hl 0 rfl) ?_
                                refine kV_i (rest := []) (q0 := 0) (ci := 12) hcf (f_X12_isChoice l dC dI cI cS H.size oM mT mS mX mL mB mD m1 m2 mR x1 x2 x3 mH mY mE mW mO y1 y2 y3 y4 mZ zt zp zf zh zr zc zy za zb zs zq (-1) 0 zn_99 zmb zlb zkb zd_99 eY_99 eB eL eEb eWb eS eX a b one two (g_zt) (g_zp) (g_zf) (g_zh) (g_zr) (g_zc) (g_zy) (g_za) (g_zb) (g_zs) (g_zq) (hf99_1) (g_zmb) (g_zkb) (hf99_0) (g_eB) (g_eL) (g_eEb) (g_eWb) (g_eS) (g_eX) (by omega) (by omega) (by omega) (by omega) (Or.inr (by omega)) (hal1) (Or.inr hal2) (by omega) (by omega) (hxl) (hlb) (hlz)) kc_X12_isChoice gX12_choices_X12_isChoice rfl rfl rfl ⟨Nat.le_of_ble_eq_true rfl, Nat.le_of_ble_eq_true rfl⟩ kX_t hK hP hD hS hA (posT mk_188 0) (posF mk_188 0) (kC_of mk_188 rfl rfl) (by decide +kernel) rfl rfl rfl hl rfl (Nat.le_of_ble_eq_true rfl) dX12_choices_138 ⟨Nat.le_of_ble_eq_true rfl, Nat.le_of_ble_eq_true rfl⟩ (fun r_102 H locs hB hJ hSn => ?_)
                                refine hB _ (fun zn_102 eY_102 zd_102 zm_102 zl_102 eE_102 zk_102 eW_102 hPD9 hf102_0 hf102_1 hf102_2 hf102_3 hf102_4 hf102_5 hf102_6 hf102_7 => ?_)
                                clear hB
                                obtain ⟨hPn, hDn⟩ := kJi (m := mk_188) hJ rfl hPD9.1 hPD9.2 (wn := [(oM, .inr (12, [.ref mT, .int zt, .ref mS, .ref mX, .int zp, .int zf, .ref mL, .ref mB, .ref mD, .ref m1, .ref m2, .int zh, .ref mR, .int zr, .ref x1, .ref x2, .ref x3, .int zc, .ref mH, .int zy, .int za, .int zb, .int zs, .int zq, .int (-1), .int 0, .ref mY, .int zn_102, .ref mE, .int zm_102, .int zl_102, .ref mW, .int zk_102, .ref mO, .int zd_102, .ref y1, .ref y2, .ref y3, .ref y4, .ref mZ])), (mY, .inl (cI, 2600, .inl eY_102)), (mB, .inl (cS, 131072, .inl eB)), (mL, .inl (cI, 512, .inl eL)), (mE, .inl (cI, 2600, .inl eE_102)), (mW, .inl (cI, 300, .inl eW_102)), (mH, .inl (cI, 800, .inl eHb)), (mS, .inl (cI, 21, .inl eS)), (mX, .inl (cI, 6300, .inl eX)), (x1, .inl (cI, 300, .inl ec1)), (x2, .inl (cI, 300, .inl ec2)), (x3, .inl (cI, 300, .inl ec3))]) rfl
                                clear hP hD hS hJ hPD9
                                have hP := hPn
                                have hD := hDn
                                have hS := hSn
                                clear hPn hDn hSn
                                refine lv_if_ne (tgt := 147) hx hb dX12_choices_141 (by decide) (fun c_103 => ?_) (fun c_103 => ?_)
                                · have tc_103 : ¬ r_102.toInt = 0 := v_ne c_103
                                  obtain ⟨cz9, hzk9, hv9⟩ := ic_1 hf102_7 (by omega)
                                  refine lv_aload_n hx hb dX12_choices_147 rfl (lv_at hl 4 rfl) ?_
                                  refine lv_aload_n hx hb dX12_choices_148 rfl (lv_at hl 4 rfl) ?_
                                  refine va_get (D := (dC, dI)) (ci := 12) (v := .ref mW) (C := RX12) (T := TX12) (N := 40) hx hb hts in_X12 hown hK hP 0 rfl rfl 31 (Nat.le_of_ble_eq_true rfl) (hts (.fieldLink RX12 64 "TextMenderModel" "work" "[I") (List.mem_of_getElem? (i := 5) rfl)) (fun _ h9 => h9) rfl dX12_choices_149 ?_
                                  refine lv_iconst (v := 0) hx hb dX12_choices_152 (by decide) ?_
                                  refine lv_aload_n hx hb dX12_choices_153 rfl (lv_at hl 4 rfl) ?_
                                  refine va_get (D := (dC, dI)) (ci := 12) (v := .int zk_102) (C := RX12) (T := TX12) (N := 40) hx hb hts in_X12 hown hK hP 0 rfl rfl 32 (Nat.le_of_ble_eq_true rfl) (hts (.fieldLink RX12 135 "TextMenderModel" "workMany" "I") (List.mem_of_getElem? (i := 6) rfl)) (fun _ h9 => h9) rfl dX12_choices_154 ?_
                                  refine kV_i (rest := []) (q0 := 0) (ci := 12) hcf (f_X12_costOf_ l dC dI cI cS H.size oM mW mT mS mX mL mB mD m1 m2 mR x1 x2 x3 mH mY mE mW mO y1 y2 y3 y4 mZ 300 zt zp zf zh zr zc zy za zb zs zq (-1) 0 zn_102 zm_102 zl_102 zk_102 zd_102 ec1 ec2 ec3 eW_102 0 zk_102 (g_zt) (g_zp) (g_zf) (g_zh) (g_zr) (g_zc) (g_zy) (g_za) (g_zb) (g_zs) (g_zq) (hf102_0) (hf102_2) (hf102_4) (by decide) (hf102_4) (by omega) (by omega) (hV) (prg_of hf102_5)) kc_X12_costOf_ gX12_choices_X12_costOf_ rfl rfl rfl ⟨Nat.le_of_ble_eq_true rfl, Nat.le_of_ble_eq_true rfl⟩ kX_t hK hP hD hS hA ([0, 2, 3, 4, 1].filterMap (fun j => (posT mk_189 0)[j]?)) (posF mk_189 0) (kCp (ws := [(oM, .inr (12, [.ref mT, .int zt, .ref mS, .ref mX, .int zp, .int zf, .ref mL, .ref mB, .ref mD, .ref m1, .ref m2, .int zh, .ref mR, .int zr, .ref x1, .ref x2, .ref x3, .int zc, .ref mH, .int zy, .int za, .int zb, .int zs, .int zq, .int (-1), .int 0, .ref mY, .int zn_102, .ref mE, .int zm_102, .int zl_102, .ref mW, .int zk_102, .ref mO, .int zd_102, .ref y1, .ref y2, .ref y3, .ref y4, .ref mZ])), (mW, .inl (cI, 300, .inl eW_102)), (x1, .inl (cI, 300, .inl ec1)), (x2, .inl (cI, 300, .inl ec2)), (x3, .inl (cI, 300, .inl ec3))]) (kC_of mk_189 rfl rfl) rfl) (by decide +kernel) rfl rfl rfl hl rfl (Nat.le_of_ble_eq_true rfl) dX12_choices_157 ⟨Nat.le_of_ble_eq_true rfl, Nat.le_of_ble_eq_true rfl⟩ (fun r_104 H locs hB hJ hSn => ?_)
                                  refine hB _ (fun hPD9 hf104_0 hf104_1 => ?_)
                                  clear hB
                                  obtain ⟨hPn, hDn⟩ := kJm (m := mk_189) hJ rfl hPD9.1 hPD9.2 [0, 4, 1, 2, 3] (by decide +kernel) (ws := [(oM, .inr (12, [.ref mT, .int zt, .ref mS, .ref mX, .int zp, .int zf, .ref mL, .ref mB, .ref mD, .ref m1, .ref m2, .int zh, .ref mR, .int zr, .ref x1, .ref x2, .ref x3, .int zc, .ref mH, .int zy, .int za, .int zb, .int zs, .int zq, .int (-1), .int 0, .ref mY, .int zn_102, .ref mE, .int zm_102, .int zl_102, .ref mW, .int zk_102, .ref mO, .int zd_102, .ref y1, .ref y2, .ref y3, .ref y4, .ref mZ])), (mW, .inl (cI, 300, .inl eW_102)), (x1, .inl (cI, 300, .inl ec1)), (x2, .inl (cI, 300, .inl ec2)), (x3, .inl (cI, 300, .inl ec3))]) rfl (wn := [(oM, .inr (12, [.ref mT, .int zt, .ref mS, .ref mX, .int zp, .int zf, .ref mL, .ref mB, .ref mD, .ref m1, .ref m2, .int zh, .ref mR, .int zr, .ref x1, .ref x2, .ref x3, .int zc, .ref mH, .int zy, .int za, .int zb, .int zs, .int zq, .int (-1), .int 0, .ref mY, .int zn_102, .ref mE, .int zm_102, .int zl_102, .ref mW, .int zk_102, .ref mO, .int zd_102, .ref y1, .ref y2, .ref y3, .ref y4, .ref mZ])), (mY, .inl (cI, 2600, .inl eY_102)), (mB, .inl (cS, 131072, .inl eB)), (mL, .inl (cI, 512, .inl eL)), (mE, .inl (cI, 2600, .inl eE_102)), (mW, .inl (cI, 300, .inl eW_102)), (mH, .inl (cI, 800, .inl eHb)), (mS, .inl (cI, 21, .inl eS)), (mX, .inl (cI, 6300, .inl eX)), (x1, .inl (cI, 300, .inl ec1)), (x2, .inl (cI, 300, .inl ec2)), (x3, .inl (cI, 300, .inl ec3))]) rfl
                                  clear hP hD hS hJ hPD9
                                  have hP := hPn
                                  have hD := hDn
                                  have hS := hSn
                                  clear hPn hDn hSn
                                  have hcc9 : r_104.toInt = cT (tcR zc.toInt ec1 ec2 ec3) cz9 eW_102 := by rw [← hzk9]; exact hf104_1
                                  have hsr9 : srtA (m200 n2.toNatClampNeg) (RA4 eHb) := FLD_s (fun i j h1 h2 => absurd h2 (Nat.not_lt_zero _)) _ _ _ hfi
                                  refine lv_istore (lv' := [(7, .int r_104), (6, .int two), (5, .int one), (4, .int n2), (3, .int r_1), (0, .ref oM), (1, .int a), (2, .int b)]) hx hb dX12_choices_160 hl (by decide) rfl (fun ls hl => ?_)
                                  have JOIN_j207 : ∀ (at_ : Int32) (H : Heap) (locs : List Loc) (ls : Array Slot), (0 ≤ at_.toInt ∧ at_.toInt ≤ 200) → (at_.toInt ≤ n2.toInt) → (∀ i : Nat, at_.toInt ≤ i → i < m200 n2.toNatClampNeg → r_104.toInt < RA4 eHb i 2) → (at_.toInt = 0 ∨ ∃ q : Nat, (q : Int) = at_.toInt - 1 ∧ RA4 eHb q 2 ≤ r_104.toInt) → va_P (dC, dI) vwCl [(oM, .inr (12, [.ref mT, .int zt, .ref mS, .ref mX, .int zp, .int zf, .ref mL, .ref mB, .ref mD, .ref m1, .ref m2, .int zh, .ref mR, .int zr, .ref x1, .ref x2, .ref x3, .int zc, .ref mH, .int zy, .int za, .int zb, .int zs, .int zq, .int (-1), .int 0, .ref mY, .int zn_102, .ref mE, .int zm_102, .int zl_102, .ref mW, .int zk_102, .ref mO, .int zd_102, .ref y1, .ref y2, .ref y3, .ref y4, .ref mZ])), (mY, .inl (cI, 2600, .inl eY_102)), (mB, .inl (cS, 131072, .inl eB)), (mL, .inl (cI, 512, .inl eL)), (mE, .inl (cI, 2600, .inl eE_102)), (mW, .inl (cI, 300, .inl eW_102)), (mH, .inl (cI, 800, .inl eHb)), (mS, .inl (cI, 21, .inl eS)), (mX, .inl (cI, 6300, .inl eX)), (x1, .inl (cI, 300, .inl ec1)), (x2, .inl (cI, 300, .inl ec2)), (x3, .inl (cI, 300, .inl ec3))] H → va_D A [(oM, .inr (12, [.ref mT, .int zt, .ref mS, .ref mX, .int zp, .int zf, .ref mL, .ref mB, .ref mD, .ref m1, .ref m2, .int zh, .ref mR, .int zr, .ref x1, .ref x2, .ref x3, .int zc, .ref mH, .int zy, .int za, .int zb, .int zs, .int zq, .int (-1), .int 0, .ref mY, .int zn_102, .ref mE, .int zm_102, .int zl_102, .ref mW, .int zk_102, .ref mO, .int zd_102, .ref y1, .ref y2, .ref y3, .ref y4, .ref mZ])), (mY, .inl (cI, 2600, .inl eY_102)), (mB, .inl (cS, 131072, .inl eB)), (mL, .inl (cI, 512, .inl eL)), (mE, .inl (cI, 2600, .inl eE_102)), (mW, .inl (cI, 300, .inl eW_102)), (mH, .inl (cI, 800, .inl eHb)), (mS, .inl (cI, 21, .inl eS)), (mX, .inl (cI, 6300, .inl eX)), (x1, .inl (cI, 300, .inl ec1)), (x2, .inl (cI, 300, .inl ec2)), (x3, .inl (cI, 300, .inl ec3))] → va_S A s.heap H locs → lv_has ls 11 [(7, .int r_104), (6, .int two), (5, .int one), (4, .int n2), (3, .int r_1), (0, .ref oM), (1, .int a), (2, .int b), (8, .int at_)] → W p l e (headSpec wsX12_choices ({ frames := 4, cells := 0, slots := 0, locals := 97 } : Room)).room s m ([.ref oM, .int a, .int b] : List Value).toArray below meth c H locs 0 0 (MQ below QQ ([.ref oM, .int a, .int b] : List Value).toArray s 0 0 A) (F0 m 207 ls []) := by
                                    clear hP hD hS hl
                                    try (clear hf99_1 hf95_1 g_znb g_zmb g_zkb g_zna g_zma g_zka g_zy g_za g_zb g_zs g_zq g_zm g_zk hzs)
                                    intro at_ H locs ls g_at_ hat hbj hsj hP hD hS hl
                                    obtain ⟨x_105, ex_105⟩ : ∃ y : Int32, y = n2 + 1 := ⟨_, rfl⟩
                                    have tx_105 : x_105.toInt = n2.toInt + 1 := v_addR (l2 := 1) (h2 := 1) ex_105 g_n2 (by decide) (by decide) (by decide)
                                    refine lv_iinc (v := x_105) (lv' := [(4, .int x_105), (7, .int r_104), (6, .int two), (5, .int one), (3, .int r_1), (0, .ref oM), (1, .int a), (2, .int b), (8, .int at_)]) hx hb dX12_choices_207 hl (k := 3) rfl (by rw [ex_105]; rfl) (by decide) rfl (fun ls hl => ?_)
                                    refine lv_iload hx hb dX12_choices_210 (lv_at hl 8 rfl) ?_
                                    refine lv_sipush (v := 200) hx hb dX12_choices_212 (by decide) ?_
                                    refine lv_icmp_ne (tgt := 221) hx hb dX12_choices_215 (by decide) (fun c_106 => ?_) (fun c_106 => ?_)
                                    · have tc_106 : ¬ at_.toInt = 200 := v_ne c_106
                                      refine lv_iload hx hb dX12_choices_221 (lv_at hl 0 rfl) ?_
                                      refine lv_sipush (v := 200) hx hb dX12_choices_223 (by decide) ?_
                                      refine lv_icmp_ge (tgt := 234) hx hb dX12_choices_226 (by decide) (fun c_107 => ?_) (fun c_107 => ?_)
                                      · have tc_107 : 200 ≤ x_105.toInt := v_le c_107
                                        refine lv_sipush (v := 200) hx hb dX12_choices_234 (by decide) ?_
                                        refine lv_iconst (v := 1) hx hb dX12_choices_237 (by decide) ?_
                                        refine lv_isub hx hb dX12_choices_238 ?_
                                        refine k_i (y := 199) (by decide) ?_
                                        refine lv_istore (lv' := [(9, .int 199), (4, .int x_105), (7, .int r_104), (6, .int two), (5, .int one), (3, .int r_1), (0, .ref oM), (1, .int a), (2, .int b), (8, .int at_)]) hx hb dX12_choices_239 hl (by decide) rfl (fun ls hl => ?_)
                                        have hhi9 : (m200 (n2.toNatClampNeg + 1) : Int) ≤ 199 + 1 := by have q9 := m200_l (n2.toNatClampNeg + 1); omega
                                        have hmat9 : at_.toInt ≤ (m200 n2.toNatClampNeg : Int) := by have q9 := m2_v n2.toNatClampNeg; by_cases z9 : (n2.toNatClampNeg : Int) < 200 <;> (first | rw [if_pos z9] at q9 | rw [if_neg z9] at q9) <;> omega
                                        have LOOP_241 : ∀ (k_241 : Nat) (k : Int32) (eHc : Nat → Int32) (H : Heap) (locs : List Loc) (ls : Array Slot), MSd (k.toInt - at_.toInt : Int) k_241 → (0 ≤ k.toInt ∧ k.toInt ≤ 199) → (at_.toInt ≤ k.toInt) → (k.toInt ≤ 199) → (KPR eHb eHc k.toInt (199)) → va_P (dC, dI) vwCl [(oM, .inr (12, [.ref mT, .int zt, .ref mS, .ref mX, .int zp, .int zf, .ref mL, .ref mB, .ref mD, .ref m1, .ref m2, .int zh, .ref mR, .int zr, .ref x1, .ref x2, .ref x3, .int zc, .ref mH, .int zy, .int za, .int zb, .int zs, .int zq, .int (-1), .int 0, .ref mY, .int zn_102, .ref mE, .int zm_102, .int zl_102, .ref mW, .int zk_102, .ref mO, .int zd_102, .ref y1, .ref y2, .ref y3, .ref y4, .ref mZ])), (mY, .inl (cI, 2600, .inl eY_102)), (mB, .inl (cS, 131072, .inl eB)), (mL, .inl (cI, 512, .inl eL)), (mE, .inl (cI, 2600, .inl eE_102)), (mW, .inl (cI, 300, .inl eW_102)), (mH, .inl (cI, 800, .inl eHc)), (mS, .inl (cI, 21, .inl eS)), (mX, .inl (cI, 6300, .inl eX)), (x1, .inl (cI, 300, .inl ec1)), (x2, .inl (cI, 300, .inl ec2)), (x3, .inl (cI, 300, .inl ec3))] H → va_D A [(oM, .inr (12, [.ref mT, .int zt, .ref mS, .ref mX, .int zp, .int zf, .ref mL, .ref mB, .ref mD, .ref m1, .ref m2, .int zh, .ref mR, .int zr, .ref x1, .ref x2, .ref x3, .int zc, .ref mH, .int zy, .int za, .int zb, .int zs, .int zq, .int (-1), .int 0, .ref mY, .int zn_102, .ref mE, .int zm_102, .int zl_102, .ref mW, .int zk_102, .ref mO, .int zd_102, .ref y1, .ref y2, .ref y3, .ref y4, .ref mZ])), (mY, .inl (cI, 2600, .inl eY_102)), (mB, .inl (cS, 131072, .inl eB)), (mL, .inl (cI, 512, .inl eL)), (mE, .inl (cI, 2600, .inl eE_102)), (mW, .inl (cI, 300, .inl eW_102)), (mH, .inl (cI, 800, .inl eHc)), (mS, .inl (cI, 21, .inl eS)), (mX, .inl (cI, 6300, .inl eX)), (x1, .inl (cI, 300, .inl ec1)), (x2, .inl (cI, 300, .inl ec2)), (x3, .inl (cI, 300, .inl ec3))] → va_S A s.heap H locs → lv_has ls 11 [(9, .int k), (4, .int x_105), (7, .int r_104), (6, .int two), (5, .int one), (3, .int r_1), (0, .ref oM), (1, .int a), (2, .int b), (8, .int at_)] → W p l e (headSpec wsX12_choices ({ frames := 4, cells := 0, slots := 0, locals := 97 } : Room)).room s m ([.ref oM, .int a, .int b] : List Value).toArray below meth c H locs 0 0 (MQ below QQ ([.ref oM, .int a, .int b] : List Value).toArray s 0 0 A) (F0 m 241 ls []) := by
                                          clear hP hD hS hl
                                          try (clear hf99_1 hf95_1 g_znb g_zmb g_zkb g_zna g_zma g_zka g_zy g_za g_zb g_zs g_zq g_zm g_zk hzs)
                                          intro k_241
                                          induction k_241 with
                                          | zero =>
                                            intro k eHc H locs ls hm_241 g_k hka hkh hkr hP hD hS hl
                                            exact ms_0 hm_241
                                          | succ k_241 ih_241 =>
                                            intro k eHc H locs ls hm_241 g_k hka hkh hkr hP hD hS hl
                                            refine lv_iload hx hb dX12_choices_241 (lv_at hl 0 rfl) ?_
                                            refine lv_iload hx hb dX12_choices_243 (lv_at hl 9 rfl) ?_
                                            refine lv_icmp_le (tgt := 295) hx hb dX12_choices_245 (by decide) (fun c_108 => ?_) (fun c_108 => ?_)
                                            · have tc_108 : k.toInt ≤ at_.toInt := v_le c_108
                                              have hkr : KPR eHb eHc at_.toInt _ := (show k.toInt = at_.toInt by omega) ▸ hkr
                                              refine lv_aload_n hx hb dX12_choices_295 rfl (lv_at hl 6 rfl) ?_
                                              refine va_get (D := (dC, dI)) (ci := 12) (v := .ref mH) (C := RX12) (T := TX12) (N := 40) hx hb hts in_X12 hown hK hP 0 rfl rfl 18 (Nat.le_of_ble_eq_true rfl) (hts (.fieldLink RX12 48 "TextMenderModel" "choices" "[I") (List.mem_of_getElem? (i := 7) rfl)) (fun _ h9 => h9) rfl dX12_choices_296 ?_
                                              refine lv_iconst (v := 4) hx hb dX12_choices_299 (by decide) ?_
                                              refine lv_iload hx hb dX12_choices_300 (lv_at hl 9 rfl) ?_
                                              refine lv_imul hx hb dX12_choices_302 ?_
                                              refine lv_topi (fun x_109 ex_109 => ?_)
                                              have tx_109 : x_109.toInt = 4 * at_.toInt := v_mul ex_109 (by show -2147483648 ≤ 4 * at_.toInt; omega) (by show 4 * at_.toInt < 2147483648; omega)
                                              refine lv_iload hx hb dX12_choices_303 (lv_at hl 4 rfl) ?_
                                              obtain ⟨f_110, ef_110⟩ : ∃ g : Nat → Int32, g = upd eHc (x_109 : Int32).toNatClampNeg one := ⟨_, rfl⟩
                                              refine va_iast hx hb hK hP hD hS 6 0 rfl rfl (v_in (by omega)) dX12_choices_305 (kWf (g := f_110) (F := fun f_110 => [(oM, .inr (12, [.ref mT, .int zt, .ref mS, .ref mX, .int zp, .int zf, .ref mL, .ref mB, .ref mD, .ref m1, .ref m2, .int zh, .ref mR, .int zr, .ref x1, .ref x2, .ref x3, .int zc, .ref mH, .int zy, .int za, .int zb, .int zs, .int zq, .int (-1), .int 0, .ref mY, .int zn_102, .ref mE, .int zm_102, .int zl_102, .ref mW, .int zk_102, .ref mO, .int zd_102, .ref y1, .ref y2, .ref y3, .ref y4, .ref mZ])), (mY, .inl (cI, 2600, .inl eY_102)), (mB, .inl (cS, 131072, .inl eB)), (mL, .inl (cI, 512, .inl eL)), (mE, .inl (cI, 2600, .inl eE_102)), (mW, .inl (cI, 300, .inl eW_102)), (mH, .inl (cI, 800, .inl f_110)), (mS, .inl (cI, 21, .inl eS)), (mX, .inl (cI, 6300, .inl eX)), (x1, .inl (cI, 300, .inl ec1)), (x2, .inl (cI, 300, .inl ec2)), (x3, .inl (cI, 300, .inl ec3))]) ef_110 rfl (fun H locs hPn hDn hSn => ?_))
                                              clear hP hD hS
                                              have hP := hPn
                                              have hD := hDn
                                              have hS := hSn
                                              clear hPn hDn hSn
                                              refine lv_aload_n hx hb dX12_choices_306 rfl (lv_at hl 6 rfl) ?_
                                              refine va_get (D := (dC, dI)) (ci := 12) (v := .ref mH) (C := RX12) (T := TX12) (N := 40) hx hb hts in_X12 hown hK hP 0 rfl rfl 18 (Nat.le_of_ble_eq_true rfl) (hts (.fieldLink RX12 48 "TextMenderModel" "choices" "[I") (List.mem_of_getElem? (i := 7) rfl)) (fun _ h9 => h9) rfl dX12_choices_307 ?_
                                              refine lv_iconst (v := 4) hx hb dX12_choices_310 (by decide) ?_
                                              refine lv_iload hx hb dX12_choices_311 (lv_at hl 9 rfl) ?_
                                              refine lv_imul hx hb dX12_choices_313 ?_
                                              refine lv_topi (fun x_111 ex_111 => ?_)
                                              have tx_111 : x_111.toInt = 4 * at_.toInt := v_mul ex_111 (by show -2147483648 ≤ 4 * at_.toInt; omega) (by show 4 * at_.toInt < 2147483648; omega)
                                              refine lv_iconst (v := 1) hx hb dX12_choices_314 (by decide) ?_
                                              refine lv_iadd hx hb dX12_choices_315 ?_
                                              refine lv_topi (fun x_112 ex_112 => ?_)
                                              have tx_112 : x_112.toInt = x_111.toInt + 1 := v_add ex_112 (by show -2147483648 ≤ x_111.toInt + 1; omega) (by show x_111.toInt + 1 < 2147483648; omega)
                                              refine lv_iload_n hx hb dX12_choices_316 rfl (lv_at hl 5 rfl) ?_
                                              refine lv_iconst (v := 1) hx hb dX12_choices_317 (by decide) ?_
                                              refine lv_icmp_ne (tgt := 325) hx hb dX12_choices_318 (by decide) (fun c_113 => ?_) (fun c_113 => by exfalso; have tc_113 : r_1.toInt = 1 := v_eq c_113; omega)
                                              have tc_113 : ¬ r_1.toInt = 1 := v_ne c_113
                                              refine lv_iload hx hb dX12_choices_325 (lv_at hl 3 rfl) ?_
                                              obtain ⟨f_114, ef_114⟩ : ∃ g : Nat → Int32, g = upd f_110 (x_112 : Int32).toNatClampNeg two := ⟨_, rfl⟩
                                              refine va_iast hx hb hK hP hD hS 6 0 rfl rfl (v_in (by omega)) dX12_choices_327 (kWf (g := f_114) (F := fun f_114 => [(oM, .inr (12, [.ref mT, .int zt, .ref mS, .ref mX, .int zp, .int zf, .ref mL, .ref mB, .ref mD, .ref m1, .ref m2, .int zh, .ref mR, .int zr, .ref x1, .ref x2, .ref x3, .int zc, .ref mH, .int zy, .int za, .int zb, .int zs, .int zq, .int (-1), .int 0, .ref mY, .int zn_102, .ref mE, .int zm_102, .int zl_102, .ref mW, .int zk_102, .ref mO, .int zd_102, .ref y1, .ref y2, .ref y3, .ref y4, .ref mZ])), (mY, .inl (cI, 2600, .inl eY_102)), (mB, .inl (cS, 131072, .inl eB)), (mL, .inl (cI, 512, .inl eL)), (mE, .inl (cI, 2600, .inl eE_102)), (mW, .inl (cI, 300, .inl eW_102)), (mH, .inl (cI, 800, .inl f_114)), (mS, .inl (cI, 21, .inl eS)), (mX, .inl (cI, 6300, .inl eX)), (x1, .inl (cI, 300, .inl ec1)), (x2, .inl (cI, 300, .inl ec2)), (x3, .inl (cI, 300, .inl ec3))]) ef_114 rfl (fun H locs hPn hDn hSn => ?_))
                                              clear hP hD hS
                                              have hP := hPn
                                              have hD := hDn
                                              have hS := hSn
                                              clear hPn hDn hSn
                                              refine lv_aload_n hx hb dX12_choices_328 rfl (lv_at hl 6 rfl) ?_
                                              refine va_get (D := (dC, dI)) (ci := 12) (v := .ref mH) (C := RX12) (T := TX12) (N := 40) hx hb hts in_X12 hown hK hP 0 rfl rfl 18 (Nat.le_of_ble_eq_true rfl) (hts (.fieldLink RX12 48 "TextMenderModel" "choices" "[I") (List.mem_of_getElem? (i := 7) rfl)) (fun _ h9 => h9) rfl dX12_choices_329 ?_
                                              refine lv_iconst (v := 4) hx hb dX12_choices_332 (by decide) ?_
                                              refine lv_iload hx hb dX12_choices_333 (lv_at hl 9 rfl) ?_
                                              refine lv_imul hx hb dX12_choices_335 ?_
                                              refine lv_topi (fun x_115 ex_115 => ?_)
                                              have tx_115 : x_115.toInt = 4 * at_.toInt := v_mul ex_115 (by show -2147483648 ≤ 4 * at_.toInt; omega) (by show 4 * at_.toInt < 2147483648; omega)
                                              refine lv_iconst (v := 2) hx hb dX12_choices_336 (by decide) ?_
                                              refine lv_iadd hx hb dX12_choices_337 ?_
                                              refine lv_topi (fun x_116 ex_116 => ?_)
                                              have tx_116 : x_116.toInt = x_115.toInt + 2 := v_add ex_116 (by show -2147483648 ≤ x_115.toInt + 2; omega) (by show x_115.toInt + 2 < 2147483648; omega)
                                              refine lv_iload hx hb dX12_choices_338 (lv_at hl 2 rfl) ?_
                                              obtain ⟨f_117, ef_117⟩ : ∃ g : Nat → Int32, g = upd f_114 (x_116 : Int32).toNatClampNeg r_104 := ⟨_, rfl⟩
                                              refine va_iast hx hb hK hP hD hS 6 0 rfl rfl (v_in (by omega)) dX12_choices_340 (kWf (g := f_117) (F := fun f_117 => [(oM, .inr (12, [.ref mT, .int zt, .ref mS, .ref mX, .int zp, .int zf, .ref mL, .ref mB, .ref mD, .ref m1, .ref m2, .int zh, .ref mR, .int zr, .ref x1, .ref x2, .ref x3, .int zc, .ref mH, .int zy, .int za, .int zb, .int zs, .int zq, .int (-1), .int 0, .ref mY, .int zn_102, .ref mE, .int zm_102, .int zl_102, .ref mW, .int zk_102, .ref mO, .int zd_102, .ref y1, .ref y2, .ref y3, .ref y4, .ref mZ])), (mY, .inl (cI, 2600, .inl eY_102)), (mB, .inl (cS, 131072, .inl eB)), (mL, .inl (cI, 512, .inl eL)), (mE, .inl (cI, 2600, .inl eE_102)), (mW, .inl (cI, 300, .inl eW_102)), (mH, .inl (cI, 800, .inl f_117)), (mS, .inl (cI, 21, .inl eS)), (mX, .inl (cI, 6300, .inl eX)), (x1, .inl (cI, 300, .inl ec1)), (x2, .inl (cI, 300, .inl ec2)), (x3, .inl (cI, 300, .inl ec3))]) ef_117 rfl (fun H locs hPn hDn hSn => ?_))
                                              clear hP hD hS
                                              have hP := hPn
                                              have hD := hDn
                                              have hS := hSn
                                              clear hPn hDn hSn
                                              refine lv_aload_n hx hb dX12_choices_341 rfl (lv_at hl 6 rfl) ?_
                                              refine va_get (D := (dC, dI)) (ci := 12) (v := .ref mH) (C := RX12) (T := TX12) (N := 40) hx hb hts in_X12 hown hK hP 0 rfl rfl 18 (Nat.le_of_ble_eq_true rfl) (hts (.fieldLink RX12 48 "TextMenderModel" "choices" "[I") (List.mem_of_getElem? (i := 7) rfl)) (fun _ h9 => h9) rfl dX12_choices_342 ?_
                                              refine lv_iconst (v := 4) hx hb dX12_choices_345 (by decide) ?_
                                              refine lv_iload hx hb dX12_choices_346 (lv_at hl 9 rfl) ?_
                                              refine lv_imul hx hb dX12_choices_348 ?_
                                              refine lv_topi (fun x_118 ex_118 => ?_)
                                              have tx_118 : x_118.toInt = 4 * at_.toInt := v_mul ex_118 (by show -2147483648 ≤ 4 * at_.toInt; omega) (by show 4 * at_.toInt < 2147483648; omega)
                                              refine lv_iconst (v := 3) hx hb dX12_choices_349 (by decide) ?_
                                              refine lv_iadd hx hb dX12_choices_350 ?_
                                              refine lv_topi (fun x_119 ex_119 => ?_)
                                              have tx_119 : x_119.toInt = x_118.toInt + 3 := v_add ex_119 (by show -2147483648 ≤ x_118.toInt + 3; omega) (by show x_118.toInt + 3 < 2147483648; omega)
                                              refine lv_aload_n hx hb dX12_choices_351 rfl (lv_at hl 6 rfl) ?_
                                              refine va_get (D := (dC, dI)) (ci := 12) (v := .int zk_102) (C := RX12) (T := TX12) (N := 40) hx hb hts in_X12 hown hK hP 0 rfl rfl 32 (Nat.le_of_ble_eq_true rfl) (hts (.fieldLink RX12 135 "TextMenderModel" "workMany" "I") (List.mem_of_getElem? (i := 6) rfl)) (fun _ h9 => h9) rfl dX12_choices_352 ?_
                                              obtain ⟨f_120, ef_120⟩ : ∃ g : Nat → Int32, g = upd f_117 (x_119 : Int32).toNatClampNeg zk_102 := ⟨_, rfl⟩
                                              refine va_iast hx hb hK hP hD hS 6 0 rfl rfl (v_in (by omega)) dX12_choices_355 (kWf (g := f_120) (F := fun f_120 => [(oM, .inr (12, [.ref mT, .int zt, .ref mS, .ref mX, .int zp, .int zf, .ref mL, .ref mB, .ref mD, .ref m1, .ref m2, .int zh, .ref mR, .int zr, .ref x1, .ref x2, .ref x3, .int zc, .ref mH, .int zy, .int za, .int zb, .int zs, .int zq, .int (-1), .int 0, .ref mY, .int zn_102, .ref mE, .int zm_102, .int zl_102, .ref mW, .int zk_102, .ref mO, .int zd_102, .ref y1, .ref y2, .ref y3, .ref y4, .ref mZ])), (mY, .inl (cI, 2600, .inl eY_102)), (mB, .inl (cS, 131072, .inl eB)), (mL, .inl (cI, 512, .inl eL)), (mE, .inl (cI, 2600, .inl eE_102)), (mW, .inl (cI, 300, .inl eW_102)), (mH, .inl (cI, 800, .inl f_120)), (mS, .inl (cI, 21, .inl eS)), (mX, .inl (cI, 6300, .inl eX)), (x1, .inl (cI, 300, .inl ec1)), (x2, .inl (cI, 300, .inl ec2)), (x3, .inl (cI, 300, .inl ec3))]) ef_120 rfl (fun H locs hPn hDn hSn => ?_))
                                              clear hP hD hS
                                              have hP := hPn
                                              have hD := hDn
                                              have hS := hSn
                                              clear hPn hDn hSn
                                              obtain ⟨x_121, ex_121⟩ : ∃ y : Int32, y = two + 1 := ⟨_, rfl⟩
                                              have tx_121 : x_121.toInt = two.toInt + 1 := v_addR (l2 := 1) (h2 := 1) ex_121 g_two (by decide) (by decide) (by decide)
                                              refine lv_iinc (v := x_121) (lv' := [(6, .int x_121), (9, .int k), (4, .int x_105), (7, .int r_104), (5, .int one), (3, .int r_1), (0, .ref oM), (1, .int a), (2, .int b), (8, .int at_)]) hx hb dX12_choices_356 hl (k := 3) rfl (by rw [ex_121]; rfl) (by decide) rfl (fun ls hl => ?_)
                                              refine lv_goto (tgt := 89) hx hb dX12_choices_359 (by decide) ?_
                                              exact ih_89 x_121 x_105 zn_102 zd_102 zm_102 zl_102 zk_102 eY_102 eE_102 eW_102 f_120 _ _ _ (ms_lt hm_89 (by show ((256 - x_121.toInt : Int)) < 256 - two.toInt; omega) (by show (0 : Int) < 256 - two.toInt; omega)) (by show 0 ≤ x_121.toInt ∧ x_121.toInt ≤ 256; omega) (by show 0 ≤ x_105.toInt ∧ x_105.toInt ≤ 65536; omega) (hf102_0) (hf102_2) (hf102_4) (hf102_1) (hf102_3) (hf102_5) (by show x_105.toInt ≤ 256 * one.toInt + x_121.toInt; omega) (fld_s hfi (by rw [Nat.zero_add]; exact stp_y (vx_y (mk := 2) (o := one) (w := two) hv9 (by omega) (by omega) (Or.inr ⟨rfl, by omega⟩) hal1 (fun _ => hal2) hcc9) (by have c8 := v_clamp (x := x_105) (by omega); omega) (rp_end hkr hsr9 (by omega) (by have q9 := m200_l n2.toNatClampNeg; have q8 := hmat9; omega) (by have q8 := hhi9; omega) (by omega) (by omega) (by omega) (by omega) ef_110 ef_114 ef_117 ef_120 (by rw [(ent2 (by omega)).1]) (by rw [(ent2 (by omega)).2.1]) (by rw [(ent2 (by omega)).2.2.1]) (by rw [(ent2 (by omega)).2.2.2]; exact hzk9) (fun i h1 h2 => by rw [(ent2 (by omega)).2.2.1]; exact hbj i h1 h2) (by rw [(ent2 (by omega)).2.2.1]; exact hsj))) (by rw [ix_eq (x := x_121) (N := two.toNatClampNeg + 1) (by omega)]; omega)) hP hD hS (lv_sub hl [0, 4, 2, 5, 6, 7, 8] rfl)
                                            · have tc_108 : at_.toInt < k.toInt := v_nle c_108
                                              refine lv_iconst (v := 0) hx hb dX12_choices_248 (by decide) ?_
                                              refine lv_istore (lv' := [(10, .int 0), (9, .int k), (4, .int x_105), (7, .int r_104), (6, .int two), (5, .int one), (3, .int r_1), (0, .ref oM), (1, .int a), (2, .int b), (8, .int at_)]) hx hb dX12_choices_249 hl (by decide) rfl (fun ls hl => ?_)
                                              have LOOP_251 : ∀ (k_251 : Nat) (i : Int32) (eHd : Nat → Int32) (H : Heap) (locs : List Loc) (ls : Array Slot), MSd (4 - i.toInt : Int) k_251 → (0 ≤ i.toInt ∧ i.toInt ≤ 4) → (KPI eHb eHd k.toInt (199) i.toInt) → va_P (dC, dI) vwCl [(oM, .inr (12, [.ref mT, .int zt, .ref mS, .ref mX, .int zp, .int zf, .ref mL, .ref mB, .ref mD, .ref m1, .ref m2, .int zh, .ref mR, .int zr, .ref x1, .ref x2, .ref x3, .int zc, .ref mH, .int zy, .int za, .int zb, .int zs, .int zq, .int (-1), .int 0, .ref mY, .int zn_102, .ref mE, .int zm_102, .int zl_102, .ref mW, .int zk_102, .ref mO, .int zd_102, .ref y1, .ref y2, .ref y3, .ref y4, .ref mZ])), (mY, .inl (cI, 2600, .inl eY_102)), (mB, .inl (cS, 131072, .inl eB)), (mL, .inl (cI, 512, .inl eL)), (mE, .inl (cI, 2600, .inl eE_102)), (mW, .inl (cI, 300, .inl eW_102)), (mH, .inl (cI, 800, .inl eHd)), (mS, .inl (cI, 21, .inl eS)), (mX, .inl (cI, 6300, .inl eX)), (x1, .inl (cI, 300, .inl ec1)), (x2, .inl (cI, 300, .inl ec2)), (x3, .inl (cI, 300, .inl ec3))] H → va_D A [(oM, .inr (12, [.ref mT, .int zt, .ref mS, .ref mX, .int zp, .int zf, .ref mL, .ref mB, .ref mD, .ref m1, .ref m2, .int zh, .ref mR, .int zr, .ref x1, .ref x2, .ref x3, .int zc, .ref mH, .int zy, .int za, .int zb, .int zs, .int zq, .int (-1), .int 0, .ref mY, .int zn_102, .ref mE, .int zm_102, .int zl_102, .ref mW, .int zk_102, .ref mO, .int zd_102, .ref y1, .ref y2, .ref y3, .ref y4, .ref mZ])), (mY, .inl (cI, 2600, .inl eY_102)), (mB, .inl (cS, 131072, .inl eB)), (mL, .inl (cI, 512, .inl eL)), (mE, .inl (cI, 2600, .inl eE_102)), (mW, .inl (cI, 300, .inl eW_102)), (mH, .inl (cI, 800, .inl eHd)), (mS, .inl (cI, 21, .inl eS)), (mX, .inl (cI, 6300, .inl eX)), (x1, .inl (cI, 300, .inl ec1)), (x2, .inl (cI, 300, .inl ec2)), (x3, .inl (cI, 300, .inl ec3))] → va_S A s.heap H locs → lv_has ls 11 [(10, .int i), (9, .int k), (4, .int x_105), (7, .int r_104), (6, .int two), (5, .int one), (3, .int r_1), (0, .ref oM), (1, .int a), (2, .int b), (8, .int at_)] → W p l e (headSpec wsX12_choices ({ frames := 4, cells := 0, slots := 0, locals := 97 } : Room)).room s m ([.ref oM, .int a, .int b] : List Value).toArray below meth c H locs 0 0 (MQ below QQ ([.ref oM, .int a, .int b] : List Value).toArray s 0 0 A) (F0 m 251 ls []) := by
                                                clear hP hD hS hl
                                                try (clear hf102_0 hf102_2 hf99_1 hf95_1 g_znb g_zmb g_zkb g_zna g_zma g_zka g_zy g_za g_zb g_zs g_zq g_zm g_zk hzs)
                                                intro k_251
                                                induction k_251 with
                                                | zero =>
                                                  intro i eHd H locs ls hm_251 g_i hki hP hD hS hl
                                                  exact ms_0 hm_251
                                                | succ k_251 ih_251 =>
                                                  intro i eHd H locs ls hm_251 g_i hki hP hD hS hl
                                                  refine lv_iload hx hb dX12_choices_251 (lv_at hl 0 rfl) ?_
                                                  refine lv_iconst (v := 4) hx hb dX12_choices_253 (by decide) ?_
                                                  refine lv_icmp_ge (tgt := 289) hx hb dX12_choices_254 (by decide) (fun c_122 => ?_) (fun c_122 => ?_)
                                                  · have tc_122 : 4 ≤ i.toInt := v_le c_122
                                                    obtain ⟨x_123, ex_123⟩ : ∃ y : Int32, y = k + (-1) := ⟨_, rfl⟩
                                                    have tx_123 : x_123.toInt = k.toInt + (-1) := v_addR (l2 := (-1)) (h2 := (-1)) ex_123 g_k (by decide) (by decide) (by decide)
                                                    refine lv_iinc (v := x_123) (lv' := [(9, .int x_123), (10, .int i), (4, .int x_105), (7, .int r_104), (6, .int two), (5, .int one), (3, .int r_1), (0, .ref oM), (1, .int a), (2, .int b), (8, .int at_)]) hx hb dX12_choices_289 hl (k := 1) rfl (by rw [ex_123]; rfl) (by decide) rfl (fun ls hl => ?_)
                                                    refine lv_goto (tgt := 241) hx hb dX12_choices_292 (by decide) ?_
                                                    exact ih_241 x_123 eHd _ _ _ (ms_lt hm_241 (by show ((x_123.toInt - at_.toInt : Int)) < k.toInt - at_.toInt; omega) (by show (0 : Int) < k.toInt - at_.toInt; omega)) (by show 0 ≤ x_123.toInt ∧ x_123.toInt ≤ 199; omega) (by show at_.toInt ≤ x_123.toInt; omega) (by show x_123.toInt ≤ 199; omega) (KPI_e hki (by omega) (by omega)) hP hD hS (lv_sub hl [0, 2, 3, 4, 5, 6, 7, 8, 9, 10] rfl)
                                                  · have tc_122 : i.toInt < 4 := v_nle c_122
                                                    refine lv_aload_n hx hb dX12_choices_257 rfl (lv_at hl 7 rfl) ?_
                                                    refine va_get (D := (dC, dI)) (ci := 12) (v := .ref mH) (C := RX12) (T := TX12) (N := 40) hx hb hts in_X12 hown hK hP 0 rfl rfl 18 (Nat.le_of_ble_eq_true rfl) (hts (.fieldLink RX12 48 "TextMenderModel" "choices" "[I") (List.mem_of_getElem? (i := 7) rfl)) (fun _ h9 => h9) rfl dX12_choices_258 ?_
                                                    refine lv_iconst (v := 4) hx hb dX12_choices_261 (by decide) ?_
                                                    refine lv_iload hx hb dX12_choices_262 (lv_at hl 1 rfl) ?_
                                                    refine lv_imul hx hb dX12_choices_264 ?_
                                                    refine lv_topi (fun x_124 ex_124 => ?_)
                                                    have tx_124 : x_124.toInt = 4 * k.toInt := v_mul ex_124 (by show -2147483648 ≤ 4 * k.toInt; omega) (by show 4 * k.toInt < 2147483648; omega)
                                                    refine lv_iload hx hb dX12_choices_265 (lv_at hl 0 rfl) ?_
                                                    refine lv_iadd hx hb dX12_choices_267 ?_
                                                    refine lv_topi (fun x_125 ex_125 => ?_)
                                                    have tx_125 : x_125.toInt = x_124.toInt + i.toInt := v_add ex_125 (by show -2147483648 ≤ x_124.toInt + i.toInt; omega) (by show x_124.toInt + i.toInt < 2147483648; omega)
                                                    refine lv_aload_n hx hb dX12_choices_268 rfl (lv_at hl 7 rfl) ?_
                                                    refine va_get (D := (dC, dI)) (ci := 12) (v := .ref mH) (C := RX12) (T := TX12) (N := 40) hx hb hts in_X12 hown hK hP 0 rfl rfl 18 (Nat.le_of_ble_eq_true rfl) (hts (.fieldLink RX12 48 "TextMenderModel" "choices" "[I") (List.mem_of_getElem? (i := 7) rfl)) (fun _ h9 => h9) rfl dX12_choices_269 ?_
                                                    refine lv_iconst (v := 4) hx hb dX12_choices_272 (by decide) ?_
                                                    refine lv_iload hx hb dX12_choices_273 (lv_at hl 1 rfl) ?_
                                                    refine lv_imul hx hb dX12_choices_275 ?_
                                                    refine lv_topi (fun x_126 ex_126 => ?_)
                                                    have tx_126 : x_126.toInt = 4 * k.toInt := v_mul ex_126 (by show -2147483648 ≤ 4 * k.toInt; omega) (by show 4 * k.toInt < 2147483648; omega)
                                                    refine lv_iconst (v := 4) hx hb dX12_choices_276 (by decide) ?_
                                                    refine lv_isub hx hb dX12_choices_277 ?_
                                                    refine lv_topi (fun x_127 ex_127 => ?_)
                                                    have tx_127 : x_127.toInt = x_126.toInt - 4 := v_sub ex_127 (by show -2147483648 ≤ x_126.toInt - 4; omega) (by show x_126.toInt - 4 < 2147483648; omega)
                                                    refine lv_iload hx hb dX12_choices_278 (lv_at hl 0 rfl) ?_
                                                    refine lv_iadd hx hb dX12_choices_280 ?_
                                                    refine lv_topi (fun x_128 ex_128 => ?_)
                                                    have tx_128 : x_128.toInt = x_127.toInt + i.toInt := v_add ex_128 (by show -2147483648 ≤ x_127.toInt + i.toInt; omega) (by show x_127.toInt + i.toInt < 2147483648; omega)
                                                    refine va_iald hx hb hK hP 6 0 rfl rfl (v_in (by omega)) dX12_choices_281 ?_
                                                    refine lv_topi (fun x_129 ex_129 => ?_)
                                                    obtain ⟨f_130, ef_130⟩ : ∃ g : Nat → Int32, g = upd eHd (x_125 : Int32).toNatClampNeg x_129 := ⟨_, rfl⟩
                                                    refine va_iast hx hb hK hP hD hS 6 0 rfl rfl (v_in (by omega)) dX12_choices_282 (kWf (g := f_130) (F := fun f_130 => [(oM, .inr (12, [.ref mT, .int zt, .ref mS, .ref mX, .int zp, .int zf, .ref mL, .ref mB, .ref mD, .ref m1, .ref m2, .int zh, .ref mR, .int zr, .ref x1, .ref x2, .ref x3, .int zc, .ref mH, .int zy, .int za, .int zb, .int zs, .int zq, .int (-1), .int 0, .ref mY, .int zn_102, .ref mE, .int zm_102, .int zl_102, .ref mW, .int zk_102, .ref mO, .int zd_102, .ref y1, .ref y2, .ref y3, .ref y4, .ref mZ])), (mY, .inl (cI, 2600, .inl eY_102)), (mB, .inl (cS, 131072, .inl eB)), (mL, .inl (cI, 512, .inl eL)), (mE, .inl (cI, 2600, .inl eE_102)), (mW, .inl (cI, 300, .inl eW_102)), (mH, .inl (cI, 800, .inl f_130)), (mS, .inl (cI, 21, .inl eS)), (mX, .inl (cI, 6300, .inl eX)), (x1, .inl (cI, 300, .inl ec1)), (x2, .inl (cI, 300, .inl ec2)), (x3, .inl (cI, 300, .inl ec3))]) ef_130 rfl (fun H locs hPn hDn hSn => ?_))
                                                    clear hP hD hS
                                                    have hP := hPn
                                                    have hD := hDn
                                                    have hS := hSn
                                                    clear hPn hDn hSn
                                                    obtain ⟨x_131, ex_131⟩ : ∃ y : Int32, y = i + 1 := ⟨_, rfl⟩
                                                    have tx_131 : x_131.toInt = i.toInt + 1 := v_addR (l2 := 1) (h2 := 1) ex_131 g_i (by decide) (by decide) (by decide)
                                                    refine lv_iinc (v := x_131) (lv' := [(10, .int x_131), (9, .int k), (4, .int x_105), (7, .int r_104), (6, .int two), (5, .int one), (3, .int r_1), (0, .ref oM), (1, .int a), (2, .int b), (8, .int at_)]) hx hb dX12_choices_283 hl (k := 0) rfl (by rw [ex_131]; rfl) (by decide) rfl (fun ls hl => ?_)
                                                    refine lv_goto (tgt := 251) hx hb dX12_choices_286 (by decide) ?_
                                                    exact ih_251 x_131 f_130 _ _ _ (ms_lt hm_251 (by show ((4 - x_131.toInt : Int)) < 4 - i.toInt; omega) (by show (0 : Int) < 4 - i.toInt; omega)) (by show 0 ≤ x_131.toInt ∧ x_131.toInt ≤ 4; omega) (KPI_s (a := x_125) (c := x_128) hki (by omega) (by omega) (by omega) (by omega) ex_129 ef_130 (by omega)) hP hD hS (lv_sub hl [0, 1, 2, 3, 4, 5, 6, 7, 8, 9, 10] rfl)
                                              exact LOOP_251 _ 0 eHc _ _ _ (ms_s _) (by decide) (KPI_0 hkr rfl) hP hD hS (lv_sub hl [0, 1, 2, 3, 4, 5, 6, 7, 8, 9, 10] rfl)
                                        exact LOOP_241 _ 199 eHb _ _ _ (ms_s _) (by decide) (by show at_.toInt ≤ 199; omega) (by show 199 ≤ 199; omega) (KPR_0 rfl) hP hD hS (lv_sub hl [0, 1, 2, 3, 4, 5, 6, 7, 8, 9] rfl)
                                      · have tc_107 : x_105.toInt < 200 := v_nle c_107
                                        refine lv_iload hx hb dX12_choices_229 (lv_at hl 0 rfl) ?_
                                        refine lv_goto (tgt := 237) hx hb dX12_choices_231 (by decide) ?_
                                        refine lv_iconst (v := 1) hx hb dX12_choices_237 (by decide) ?_
                                        refine lv_isub hx hb dX12_choices_238 ?_
                                        refine lv_topi (fun x_132 ex_132 => ?_)
                                        have tx_132 : x_132.toInt = x_105.toInt - 1 := v_subR (l2 := 1) (h2 := 1) ex_132 (v_sumR (l := 1) (h := 65537) (l2 := 1) (h2 := 1) tx_105 g_n2 (by decide) (by decide) (by decide)) (by decide) (by decide) (by decide)
                                        refine lv_istore (lv' := [(9, .int x_132), (4, .int x_105), (7, .int r_104), (6, .int two), (5, .int one), (3, .int r_1), (0, .ref oM), (1, .int a), (2, .int b), (8, .int at_)]) hx hb dX12_choices_239 hl (by decide) rfl (fun ls hl => ?_)
                                        have hhi9 : (m200 (n2.toNatClampNeg + 1) : Int) ≤ x_132.toInt + 1 := by have q9 := m200_l (n2.toNatClampNeg + 1); omega
                                        have hmat9 : at_.toInt ≤ (m200 n2.toNatClampNeg : Int) := by have q9 := m2_v n2.toNatClampNeg; by_cases z9 : (n2.toNatClampNeg : Int) < 200 <;> (first | rw [if_pos z9] at q9 | rw [if_neg z9] at q9) <;> omega
                                        have LOOP_241 : ∀ (k_241 : Nat) (k : Int32) (eHc : Nat → Int32) (H : Heap) (locs : List Loc) (ls : Array Slot), MSd (k.toInt - at_.toInt : Int) k_241 → (0 ≤ k.toInt ∧ k.toInt ≤ 199) → (at_.toInt ≤ k.toInt) → (k.toInt ≤ x_132.toInt) → (KPR eHb eHc k.toInt (x_132.toInt)) → va_P (dC, dI) vwCl [(oM, .inr (12, [.ref mT, .int zt, .ref mS, .ref mX, .int zp, .int zf, .ref mL, .ref mB, .ref mD, .ref m1, .ref m2, .int zh, .ref mR, .int zr, .ref x1, .ref x2, .ref x3, .int zc, .ref mH, .int zy, .int za, .int zb, .int zs, .int zq, .int (-1), .int 0, .ref mY, .int zn_102, .ref mE, .int zm_102, .int zl_102, .ref mW, .int zk_102, .ref mO, .int zd_102, .ref y1, .ref y2, .ref y3, .ref y4, .ref mZ])), (mY, .inl (cI, 2600, .inl eY_102)), (mB, .inl (cS, 131072, .inl eB)), (mL, .inl (cI, 512, .inl eL)), (mE, .inl (cI, 2600, .inl eE_102)), (mW, .inl (cI, 300, .inl eW_102)), (mH, .inl (cI, 800, .inl eHc)), (mS, .inl (cI, 21, .inl eS)), (mX, .inl (cI, 6300, .inl eX)), (x1, .inl (cI, 300, .inl ec1)), (x2, .inl (cI, 300, .inl ec2)), (x3, .inl (cI, 300, .inl ec3))] H → va_D A [(oM, .inr (12, [.ref mT, .int zt, .ref mS, .ref mX, .int zp, .int zf, .ref mL, .ref mB, .ref mD, .ref m1, .ref m2, .int zh, .ref mR, .int zr, .ref x1, .ref x2, .ref x3, .int zc, .ref mH, .int zy, .int za, .int zb, .int zs, .int zq, .int (-1), .int 0, .ref mY, .int zn_102, .ref mE, .int zm_102, .int zl_102, .ref mW, .int zk_102, .ref mO, .int zd_102, .ref y1, .ref y2, .ref y3, .ref y4, .ref mZ])), (mY, .inl (cI, 2600, .inl eY_102)), (mB, .inl (cS, 131072, .inl eB)), (mL, .inl (cI, 512, .inl eL)), (mE, .inl (cI, 2600, .inl eE_102)), (mW, .inl (cI, 300, .inl eW_102)), (mH, .inl (cI, 800, .inl eHc)), (mS, .inl (cI, 21, .inl eS)), (mX, .inl (cI, 6300, .inl eX)), (x1, .inl (cI, 300, .inl ec1)), (x2, .inl (cI, 300, .inl ec2)), (x3, .inl (cI, 300, .inl ec3))] → va_S A s.heap H locs → lv_has ls 11 [(9, .int k), (4, .int x_105), (7, .int r_104), (6, .int two), (5, .int one), (3, .int r_1), (0, .ref oM), (1, .int a), (2, .int b), (8, .int at_)] → W p l e (headSpec wsX12_choices ({ frames := 4, cells := 0, slots := 0, locals := 97 } : Room)).room s m ([.ref oM, .int a, .int b] : List Value).toArray below meth c H locs 0 0 (MQ below QQ ([.ref oM, .int a, .int b] : List Value).toArray s 0 0 A) (F0 m 241 ls []) := by
                                          clear hP hD hS hl
                                          try (clear hf99_1 hf95_1 g_znb g_zmb g_zkb g_zna g_zma g_zka g_zy g_za g_zb g_zs g_zq g_zm g_zk hzs)
                                          intro k_241
                                          induction k_241 with
                                          | zero =>
                                            intro k eHc H locs ls hm_241 g_k hka hkh hkr hP hD hS hl
                                            exact ms_0 hm_241
                                          | succ k_241 ih_241 =>
                                            intro k eHc H locs ls hm_241 g_k hka hkh hkr hP hD hS hl
                                            refine lv_iload hx hb dX12_choices_241 (lv_at hl 0 rfl) ?_
                                            refine lv_iload hx hb dX12_choices_243 (lv_at hl 9 rfl) ?_
                                            refine lv_icmp_le (tgt := 295) hx hb dX12_choices_245 (by decide) (fun c_133 => ?_) (fun c_133 => ?_)
                                            · have tc_133 : k.toInt ≤ at_.toInt := v_le c_133
                                              have hkr : KPR eHb eHc at_.toInt _ := (show k.toInt = at_.toInt by omega) ▸ hkr
                                              refine lv_aload_n hx hb dX12_choices_295 rfl (lv_at hl 6 rfl) ?_
                                              refine va_get (D := (dC, dI)) (ci := 12) (v := .ref mH) (C := RX12) (T := TX12) (N := 40) hx hb hts in_X12 hown hK hP 0 rfl rfl 18 (Nat.le_of_ble_eq_true rfl) (hts (.fieldLink RX12 48 "TextMenderModel" "choices" "[I") (List.mem_of_getElem? (i := 7) rfl)) (fun _ h9 => h9) rfl dX12_choices_296 ?_
                                              refine lv_iconst (v := 4) hx hb dX12_choices_299 (by decide) ?_
                                              refine lv_iload hx hb dX12_choices_300 (lv_at hl 9 rfl) ?_
                                              refine lv_imul hx hb dX12_choices_302 ?_
                                              refine lv_topi (fun x_134 ex_134 => ?_)
                                              have tx_134 : x_134.toInt = 4 * at_.toInt := v_mul ex_134 (by show -2147483648 ≤ 4 * at_.toInt; omega) (by show 4 * at_.toInt < 2147483648; omega)
                                              refine lv_iload hx hb dX12_choices_303 (lv_at hl 4 rfl) ?_
                                              obtain ⟨f_135, ef_135⟩ : ∃ g : Nat → Int32, g = upd eHc (x_134 : Int32).toNatClampNeg one := ⟨_, rfl⟩
                                              refine va_iast hx hb hK hP hD hS 6 0 rfl rfl (v_in (by omega)) dX12_choices_305 (kWf (g := f_135) (F := fun f_135 => [(oM, .inr (12, [.ref mT, .int zt, .ref mS, .ref mX, .int zp, .int zf, .ref mL, .ref mB, .ref mD, .ref m1, .ref m2, .int zh, .ref mR, .int zr, .ref x1, .ref x2, .ref x3, .int zc, .ref mH, .int zy, .int za, .int zb, .int zs, .int zq, .int (-1), .int 0, .ref mY, .int zn_102, .ref mE, .int zm_102, .int zl_102, .ref mW, .int zk_102, .ref mO, .int zd_102, .ref y1, .ref y2, .ref y3, .ref y4, .ref mZ])), (mY, .inl (cI, 2600, .inl eY_102)), (mB, .inl (cS, 131072, .inl eB)), (mL, .inl (cI, 512, .inl eL)), (mE, .inl (cI, 2600, .inl eE_102)), (mW, .inl (cI, 300, .inl eW_102)), (mH, .inl (cI, 800, .inl f_135)), (mS, .inl (cI, 21, .inl eS)), (mX, .inl (cI, 6300, .inl eX)), (x1, .inl (cI, 300, .inl ec1)), (x2, .inl (cI, 300, .inl ec2)), (x3, .inl (cI, 300, .inl ec3))]) ef_135 rfl (fun H locs hPn hDn hSn => ?_))
                                              clear hP hD hS
                                              have hP := hPn
                                              have hD := hDn
                                              have hS := hSn
                                              clear hPn hDn hSn
                                              refine lv_aload_n hx hb dX12_choices_306 rfl (lv_at hl 6 rfl) ?_
                                              refine va_get (D := (dC, dI)) (ci := 12) (v := .ref mH) (C := RX12) (T := TX12) (N := 40) hx hb hts in_X12 hown hK hP 0 rfl rfl 18 (Nat.le_of_ble_eq_true rfl) (hts (.fieldLink RX12 48 "TextMenderModel" "choices" "[I") (List.mem_of_getElem? (i := 7) rfl)) (fun _ h9 => h9) rfl dX12_choices_307 ?_
                                              refine lv_iconst (v := 4) hx hb dX12_choices_310 (by decide) ?_
                                              refine lv_iload hx hb dX12_choices_311 (lv_at hl 9 rfl) ?_
                                              refine lv_imul hx hb dX12_choices_313 ?_
                                              refine lv_topi (fun x_136 ex_136 => ?_)
                                              have tx_136 : x_136.toInt = 4 * at_.toInt := v_mul ex_136 (by show -2147483648 ≤ 4 * at_.toInt; omega) (by show 4 * at_.toInt < 2147483648; omega)
                                              refine lv_iconst (v := 1) hx hb dX12_choices_314 (by decide) ?_
                                              refine lv_iadd hx hb dX12_choices_315 ?_
                                              refine lv_topi (fun x_137 ex_137 => ?_)
                                              have tx_137 : x_137.toInt = x_136.toInt + 1 := v_add ex_137 (by show -2147483648 ≤ x_136.toInt + 1; omega) (by show x_136.toInt + 1 < 2147483648; omega)
                                              refine lv_iload_n hx hb dX12_choices_316 rfl (lv_at hl 5 rfl) ?_
                                              refine lv_iconst (v := 1) hx hb dX12_choices_317 (by decide) ?_
                                              refine lv_icmp_ne (tgt := 325) hx hb dX12_choices_318 (by decide) (fun c_138 => ?_) (fun c_138 => by exfalso; have tc_138 : r_1.toInt = 1 := v_eq c_138; omega)
                                              have tc_138 : ¬ r_1.toInt = 1 := v_ne c_138
                                              refine lv_iload hx hb dX12_choices_325 (lv_at hl 3 rfl) ?_
                                              obtain ⟨f_139, ef_139⟩ : ∃ g : Nat → Int32, g = upd f_135 (x_137 : Int32).toNatClampNeg two := ⟨_, rfl⟩
                                              refine va_iast hx hb hK hP hD hS 6 0 rfl rfl (v_in (by omega)) dX12_choices_327 (kWf (g := f_139) (F := fun f_139 => [(oM, .inr (12, [.ref mT, .int zt, .ref mS, .ref mX, .int zp, .int zf, .ref mL, .ref mB, .ref mD, .ref m1, .ref m2, .int zh, .ref mR, .int zr, .ref x1, .ref x2, .ref x3, .int zc, .ref mH, .int zy, .int za, .int zb, .int zs, .int zq, .int (-1), .int 0, .ref mY, .int zn_102, .ref mE, .int zm_102, .int zl_102, .ref mW, .int zk_102, .ref mO, .int zd_102, .ref y1, .ref y2, .ref y3, .ref y4, .ref mZ])), (mY, .inl (cI, 2600, .inl eY_102)), (mB, .inl (cS, 131072, .inl eB)), (mL, .inl (cI, 512, .inl eL)), (mE, .inl (cI, 2600, .inl eE_102)), (mW, .inl (cI, 300, .inl eW_102)), (mH, .inl (cI, 800, .inl f_139)), (mS, .inl (cI, 21, .inl eS)), (mX, .inl (cI, 6300, .inl eX)), (x1, .inl (cI, 300, .inl ec1)), (x2, .inl (cI, 300, .inl ec2)), (x3, .inl (cI, 300, .inl ec3))]) ef_139 rfl (fun H locs hPn hDn hSn => ?_))
                                              clear hP hD hS
                                              have hP := hPn
                                              have hD := hDn
                                              have hS := hSn
                                              clear hPn hDn hSn
                                              refine lv_aload_n hx hb dX12_choices_328 rfl (lv_at hl 6 rfl) ?_
                                              refine va_get (D := (dC, dI)) (ci := 12) (v := .ref mH) (C := RX12) (T := TX12) (N := 40) hx hb hts in_X12 hown hK hP 0 rfl rfl 18 (Nat.le_of_ble_eq_true rfl) (hts (.fieldLink RX12 48 "TextMenderModel" "choices" "[I") (List.mem_of_getElem? (i := 7) rfl)) (fun _ h9 => h9) rfl dX12_choices_329 ?_
                                              refine lv_iconst (v := 4) hx hb dX12_choices_332 (by decide) ?_
                                              refine lv_iload hx hb dX12_choices_333 (lv_at hl 9 rfl) ?_
                                              refine lv_imul hx hb dX12_choices_335 ?_
                                              refine lv_topi (fun x_140 ex_140 => ?_)
                                              have tx_140 : x_140.toInt = 4 * at_.toInt := v_mul ex_140 (by show -2147483648 ≤ 4 * at_.toInt; omega) (by show 4 * at_.toInt < 2147483648; omega)
                                              refine lv_iconst (v := 2) hx hb dX12_choices_336 (by decide) ?_
                                              refine lv_iadd hx hb dX12_choices_337 ?_
                                              refine lv_topi (fun x_141 ex_141 => ?_)
                                              have tx_141 : x_141.toInt = x_140.toInt + 2 := v_add ex_141 (by show -2147483648 ≤ x_140.toInt + 2; omega) (by show x_140.toInt + 2 < 2147483648; omega)
                                              refine lv_iload hx hb dX12_choices_338 (lv_at hl 2 rfl) ?_
                                              obtain ⟨f_142, ef_142⟩ : ∃ g : Nat → Int32, g = upd f_139 (x_141 : Int32).toNatClampNeg r_104 := ⟨_, rfl⟩
                                              refine va_iast hx hb hK hP hD hS 6 0 rfl rfl (v_in (by omega)) dX12_choices_340 (kWf (g := f_142) (F := fun f_142 => [(oM, .inr (12, [.ref mT, .int zt, .ref mS, .ref mX, .int zp, .int zf, .ref mL, .ref mB, .ref mD, .ref m1, .ref m2, .int zh, .ref mR, .int zr, .ref x1, .ref x2, .ref x3, .int zc, .ref mH, .int zy, .int za, .int zb, .int zs, .int zq, .int (-1), .int 0, .ref mY, .int zn_102, .ref mE, .int zm_102, .int zl_102, .ref mW, .int zk_102, .ref mO, .int zd_102, .ref y1, .ref y2, .ref y3, .ref y4, .ref mZ])), (mY, .inl (cI, 2600, .inl eY_102)), (mB, .inl (cS, 131072, .inl eB)), (mL, .inl (cI, 512, .inl eL)), (mE, .inl (cI, 2600, .inl eE_102)), (mW, .inl (cI, 300, .inl eW_102)), (mH, .inl (cI, 800, .inl f_142)), (mS, .inl (cI, 21, .inl eS)), (mX, .inl (cI, 6300, .inl eX)), (x1, .inl (cI, 300, .inl ec1)), (x2, .inl (cI, 300, .inl ec2)), (x3, .inl (cI, 300, .inl ec3))]) ef_142 rfl (fun H locs hPn hDn hSn => ?_))
                                              clear hP hD hS
                                              have hP := hPn
                                              have hD := hDn
                                              have hS := hSn
                                              clear hPn hDn hSn
                                              refine lv_aload_n hx hb dX12_choices_341 rfl (lv_at hl 6 rfl) ?_
                                              refine va_get (D := (dC, dI)) (ci := 12) (v := .ref mH) (C := RX12) (T := TX12) (N := 40) hx hb hts in_X12 hown hK hP 0 rfl rfl 18 (Nat.le_of_ble_eq_true rfl) (hts (.fieldLink RX12 48 "TextMenderModel" "choices" "[I") (List.mem_of_getElem? (i := 7) rfl)) (fun _ h9 => h9) rfl dX12_choices_342 ?_
                                              refine lv_iconst (v := 4) hx hb dX12_choices_345 (by decide) ?_
                                              refine lv_iload hx hb dX12_choices_346 (lv_at hl 9 rfl) ?_
                                              refine lv_imul hx hb dX12_choices_348 ?_
                                              refine lv_topi (fun x_143 ex_143 => ?_)
                                              have tx_143 : x_143.toInt = 4 * at_.toInt := v_mul ex_143 (by show -2147483648 ≤ 4 * at_.toInt; omega) (by show 4 * at_.toInt < 2147483648; omega)
                                              refine lv_iconst (v := 3) hx hb dX12_choices_349 (by decide) ?_
                                              refine lv_iadd hx hb dX12_choices_350 ?_
                                              refine lv_topi (fun x_144 ex_144 => ?_)
                                              have tx_144 : x_144.toInt = x_143.toInt + 3 := v_add ex_144 (by show -2147483648 ≤ x_143.toInt + 3; omega) (by show x_143.toInt + 3 < 2147483648; omega)
                                              refine lv_aload_n hx hb dX12_choices_351 rfl (lv_at hl 6 rfl) ?_
                                              refine va_get (D := (dC, dI)) (ci := 12) (v := .int zk_102) (C := RX12) (T := TX12) (N := 40) hx hb hts in_X12 hown hK hP 0 rfl rfl 32 (Nat.le_of_ble_eq_true rfl) (hts (.fieldLink RX12 135 "TextMenderModel" "workMany" "I") (List.mem_of_getElem? (i := 6) rfl)) (fun _ h9 => h9) rfl dX12_choices_352 ?_
                                              obtain ⟨f_145, ef_145⟩ : ∃ g : Nat → Int32, g = upd f_142 (x_144 : Int32).toNatClampNeg zk_102 := ⟨_, rfl⟩
                                              refine va_iast hx hb hK hP hD hS 6 0 rfl rfl (v_in (by omega)) dX12_choices_355 (kWf (g := f_145) (F := fun f_145 => [(oM, .inr (12, [.ref mT, .int zt, .ref mS, .ref mX, .int zp, .int zf, .ref mL, .ref mB, .ref mD, .ref m1, .ref m2, .int zh, .ref mR, .int zr, .ref x1, .ref x2, .ref x3, .int zc, .ref mH, .int zy, .int za, .int zb, .int zs, .int zq, .int (-1), .int 0, .ref mY, .int zn_102, .ref mE, .int zm_102, .int zl_102, .ref mW, .int zk_102, .ref mO, .int zd_102, .ref y1, .ref y2, .ref y3, .ref y4, .ref mZ])), (mY, .inl (cI, 2600, .inl eY_102)), (mB, .inl (cS, 131072, .inl eB)), (mL, .inl (cI, 512, .inl eL)), (mE, .inl (cI, 2600, .inl eE_102)), (mW, .inl (cI, 300, .inl eW_102)), (mH, .inl (cI, 800, .inl f_145)), (mS, .inl (cI, 21, .inl eS)), (mX, .inl (cI, 6300, .inl eX)), (x1, .inl (cI, 300, .inl ec1)), (x2, .inl (cI, 300, .inl ec2)), (x3, .inl (cI, 300, .inl ec3))]) ef_145 rfl (fun H locs hPn hDn hSn => ?_))
                                              clear hP hD hS
                                              have hP := hPn
                                              have hD := hDn
                                              have hS := hSn
                                              clear hPn hDn hSn
                                              obtain ⟨x_146, ex_146⟩ : ∃ y : Int32, y = two + 1 := ⟨_, rfl⟩
                                              have tx_146 : x_146.toInt = two.toInt + 1 := v_addR (l2 := 1) (h2 := 1) ex_146 g_two (by decide) (by decide) (by decide)
                                              refine lv_iinc (v := x_146) (lv' := [(6, .int x_146), (9, .int k), (4, .int x_105), (7, .int r_104), (5, .int one), (3, .int r_1), (0, .ref oM), (1, .int a), (2, .int b), (8, .int at_)]) hx hb dX12_choices_356 hl (k := 3) rfl (by rw [ex_146]; rfl) (by decide) rfl (fun ls hl => ?_)
                                              refine lv_goto (tgt := 89) hx hb dX12_choices_359 (by decide) ?_
                                              exact ih_89 x_146 x_105 zn_102 zd_102 zm_102 zl_102 zk_102 eY_102 eE_102 eW_102 f_145 _ _ _ (ms_lt hm_89 (by show ((256 - x_146.toInt : Int)) < 256 - two.toInt; omega) (by show (0 : Int) < 256 - two.toInt; omega)) (by show 0 ≤ x_146.toInt ∧ x_146.toInt ≤ 256; omega) (by show 0 ≤ x_105.toInt ∧ x_105.toInt ≤ 65536; omega) (hf102_0) (hf102_2) (hf102_4) (hf102_1) (hf102_3) (hf102_5) (by show x_105.toInt ≤ 256 * one.toInt + x_146.toInt; omega) (fld_s hfi (by rw [Nat.zero_add]; exact stp_y (vx_y (mk := 2) (o := one) (w := two) hv9 (by omega) (by omega) (Or.inr ⟨rfl, by omega⟩) hal1 (fun _ => hal2) hcc9) (by have c8 := v_clamp (x := x_105) (by omega); omega) (rp_end hkr hsr9 (by omega) (by have q9 := m200_l n2.toNatClampNeg; have q8 := hmat9; omega) (by have q8 := hhi9; omega) (by omega) (by omega) (by omega) (by omega) ef_135 ef_139 ef_142 ef_145 (by rw [(ent2 (by omega)).1]) (by rw [(ent2 (by omega)).2.1]) (by rw [(ent2 (by omega)).2.2.1]) (by rw [(ent2 (by omega)).2.2.2]; exact hzk9) (fun i h1 h2 => by rw [(ent2 (by omega)).2.2.1]; exact hbj i h1 h2) (by rw [(ent2 (by omega)).2.2.1]; exact hsj))) (by rw [ix_eq (x := x_146) (N := two.toNatClampNeg + 1) (by omega)]; omega)) hP hD hS (lv_sub hl [0, 4, 2, 5, 6, 7, 8] rfl)
                                            · have tc_133 : at_.toInt < k.toInt := v_nle c_133
                                              refine lv_iconst (v := 0) hx hb dX12_choices_248 (by decide) ?_
                                              refine lv_istore (lv' := [(10, .int 0), (9, .int k), (4, .int x_105), (7, .int r_104), (6, .int two), (5, .int one), (3, .int r_1), (0, .ref oM), (1, .int a), (2, .int b), (8, .int at_)]) hx hb dX12_choices_249 hl (by decide) rfl (fun ls hl => ?_)
                                              have LOOP_251 : ∀ (k_251 : Nat) (i : Int32) (eHd : Nat → Int32) (H : Heap) (locs : List Loc) (ls : Array Slot), MSd (4 - i.toInt : Int) k_251 → (0 ≤ i.toInt ∧ i.toInt ≤ 4) → (KPI eHb eHd k.toInt (x_132.toInt) i.toInt) → va_P (dC, dI) vwCl [(oM, .inr (12, [.ref mT, .int zt, .ref mS, .ref mX, .int zp, .int zf, .ref mL, .ref mB, .ref mD, .ref m1, .ref m2, .int zh, .ref mR, .int zr, .ref x1, .ref x2, .ref x3, .int zc, .ref mH, .int zy, .int za, .int zb, .int zs, .int zq, .int (-1), .int 0, .ref mY, .int zn_102, .ref mE, .int zm_102, .int zl_102, .ref mW, .int zk_102, .ref mO, .int zd_102, .ref y1, .ref y2, .ref y3, .ref y4, .ref mZ])), (mY, .inl (cI, 2600, .inl eY_102)), (mB, .inl (cS, 131072, .inl eB)), (mL, .inl (cI, 512, .inl eL)), (mE, .inl (cI, 2600, .inl eE_102)), (mW, .inl (cI, 300, .inl eW_102)), (mH, .inl (cI, 800, .inl eHd)), (mS, .inl (cI, 21, .inl eS)), (mX, .inl (cI, 6300, .inl eX)), (x1, .inl (cI, 300, .inl ec1)), (x2, .inl (cI, 300, .inl ec2)), (x3, .inl (cI, 300, .inl ec3))] H → va_D A [(oM, .inr (12, [.ref mT, .int zt, .ref mS, .ref mX, .int zp, .int zf, .ref mL, .ref mB, .ref mD, .ref m1, .ref m2, .int zh, .ref mR, .int zr, .ref x1, .ref x2, .ref x3, .int zc, .ref mH, .int zy, .int za, .int zb, .int zs, .int zq, .int (-1), .int 0, .ref mY, .int zn_102, .ref mE, .int zm_102, .int zl_102, .ref mW, .int zk_102, .ref mO, .int zd_102, .ref y1, .ref y2, .ref y3, .ref y4, .ref mZ])), (mY, .inl (cI, 2600, .inl eY_102)), (mB, .inl (cS, 131072, .inl eB)), (mL, .inl (cI, 512, .inl eL)), (mE, .inl (cI, 2600, .inl eE_102)), (mW, .inl (cI, 300, .inl eW_102)), (mH, .inl (cI, 800, .inl eHd)), (mS, .inl (cI, 21, .inl eS)), (mX, .inl (cI, 6300, .inl eX)), (x1, .inl (cI, 300, .inl ec1)), (x2, .inl (cI, 300, .inl ec2)), (x3, .inl (cI, 300, .inl ec3))] → va_S A s.heap H locs → lv_has ls 11 [(10, .int i), (9, .int k), (4, .int x_105), (7, .int r_104), (6, .int two), (5, .int one), (3, .int r_1), (0, .ref oM), (1, .int a), (2, .int b), (8, .int at_)] → W p l e (headSpec wsX12_choices ({ frames := 4, cells := 0, slots := 0, locals := 97 } : Room)).room s m ([.ref oM, .int a, .int b] : List Value).toArray below meth c H locs 0 0 (MQ below QQ ([.ref oM, .int a, .int b] : List Value).toArray s 0 0 A) (F0 m 251 ls []) := by
                                                clear hP hD hS hl
                                                try (clear hf102_0 hf102_2 hf99_1 hf95_1 g_znb g_zmb g_zkb g_zna g_zma g_zka g_zy g_za g_zb g_zs g_zq g_zm g_zk hzs)
                                                intro k_251
                                                induction k_251 with
                                                | zero =>
                                                  intro i eHd H locs ls hm_251 g_i hki hP hD hS hl
                                                  exact ms_0 hm_251
                                                | succ k_251 ih_251 =>
                                                  intro i eHd H locs ls hm_251 g_i hki hP hD hS hl
                                                  refine lv_iload hx hb dX12_choices_251 (lv_at hl 0 rfl) ?_
                                                  refine lv_iconst (v := 4) hx hb dX12_choices_253 (by decide) ?_
                                                  refine lv_icmp_ge (tgt := 289) hx hb dX12_choices_254 (by decide) (fun c_147 => ?_) (fun c_147 => ?_)
                                                  · have tc_147 : 4 ≤ i.toInt := v_le c_147
                                                    obtain ⟨x_148, ex_148⟩ : ∃ y : Int32, y = k + (-1) := ⟨_, rfl⟩
                                                    have tx_148 : x_148.toInt = k.toInt + (-1) := v_addR (l2 := (-1)) (h2 := (-1)) ex_148 g_k (by decide) (by decide) (by decide)
                                                    refine lv_iinc (v := x_148) (lv' := [(9, .int x_148), (10, .int i), (4, .int x_105), (7, .int r_104), (6, .int two), (5, .int one), (3, .int r_1), (0, .ref oM), (1, .int a), (2, .int b), (8, .int at_)]) hx hb dX12_choices_289 hl (k := 1) rfl (by rw [ex_148]; rfl) (by decide) rfl (fun ls hl => ?_)
                                                    refine lv_goto (tgt := 241) hx hb dX12_choices_292 (by decide) ?_
                                                    exact ih_241 x_148 eHd _ _ _ (ms_lt hm_241 (by show ((x_148.toInt - at_.toInt : Int)) < k.toInt - at_.toInt; omega) (by show (0 : Int) < k.toInt - at_.toInt; omega)) (by show 0 ≤ x_148.toInt ∧ x_148.toInt ≤ 199; omega) (by show at_.toInt ≤ x_148.toInt; omega) (by show x_148.toInt ≤ x_132.toInt; omega) (KPI_e hki (by omega) (by omega)) hP hD hS (lv_sub hl [0, 2, 3, 4, 5, 6, 7, 8, 9, 10] rfl)
                                                  · have tc_147 : i.toInt < 4 := v_nle c_147
                                                    refine lv_aload_n hx hb dX12_choices_257 rfl (lv_at hl 7 rfl) ?_
                                                    refine va_get (D := (dC, dI)) (ci := 12) (v := .ref mH) (C := RX12) (T := TX12) (N := 40) hx hb hts in_X12 hown hK hP 0 rfl rfl 18 (Nat.le_of_ble_eq_true rfl) (hts (.fieldLink RX12 48 "TextMenderModel" "choices" "[I") (List.mem_of_getElem? (i := 7) rfl)) (fun _ h9 => h9) rfl dX12_choices_258 ?_
                                                    refine lv_iconst (v := 4) hx hb dX12_choices_261 (by decide) ?_
                                                    refine lv_iload hx hb dX12_choices_262 (lv_at hl 1 rfl) ?_
                                                    refine lv_imul hx hb dX12_choices_264 ?_
                                                    refine lv_topi (fun x_149 ex_149 => ?_)
                                                    have tx_149 : x_149.toInt = 4 * k.toInt := v_mul ex_149 (by show -2147483648 ≤ 4 * k.toInt; omega) (by show 4 * k.toInt < 2147483648; omega)
                                                    refine lv_iload hx hb dX12_choices_265 (lv_at hl 0 rfl) ?_
                                                    refine lv_iadd hx hb dX12_choices_267 ?_
                                                    refine lv_topi (fun x_150 ex_150 => ?_)
                                                    have tx_150 : x_150.toInt = x_149.toInt + i.toInt := v_add ex_150 (by show -2147483648 ≤ x_149.toInt + i.toInt; omega) (by show x_149.toInt + i.toInt < 2147483648; omega)
                                                    refine lv_aload_n hx hb dX12_choices_268 rfl (lv_at hl 7 rfl) ?_
                                                    refine va_get (D := (dC, dI)) (ci := 12) (v := .ref mH) (C := RX12) (T := TX12) (N := 40) hx hb hts in_X12 hown hK hP 0 rfl rfl 18 (Nat.le_of_ble_eq_true rfl) (hts (.fieldLink RX12 48 "TextMenderModel" "choices" "[I") (List.mem_of_getElem? (i := 7) rfl)) (fun _ h9 => h9) rfl dX12_choices_269 ?_
                                                    refine lv_iconst (v := 4) hx hb dX12_choices_272 (by decide) ?_
                                                    refine lv_iload hx hb dX12_choices_273 (lv_at hl 1 rfl) ?_
                                                    refine lv_imul hx hb dX12_choices_275 ?_
                                                    refine lv_topi (fun x_151 ex_151 => ?_)
                                                    have tx_151 : x_151.toInt = 4 * k.toInt := v_mul ex_151 (by show -2147483648 ≤ 4 * k.toInt; omega) (by show 4 * k.toInt < 2147483648; omega)
                                                    refine lv_iconst (v := 4) hx hb dX12_choices_276 (by decide) ?_
                                                    refine lv_isub hx hb dX12_choices_277 ?_
                                                    refine lv_topi (fun x_152 ex_152 => ?_)
                                                    have tx_152 : x_152.toInt = x_151.toInt - 4 := v_sub ex_152 (by show -2147483648 ≤ x_151.toInt - 4; omega) (by show x_151.toInt - 4 < 2147483648; omega)
                                                    refine lv_iload hx hb dX12_choices_278 (lv_at hl 0 rfl) ?_
                                                    refine lv_iadd hx hb dX12_choices_280 ?_
                                                    refine lv_topi (fun x_153 ex_153 => ?_)
                                                    have tx_153 : x_153.toInt = x_152.toInt + i.toInt := v_add ex_153 (by show -2147483648 ≤ x_152.toInt + i.toInt; omega) (by show x_152.toInt + i.toInt < 2147483648; omega)
                                                    refine va_iald hx hb hK hP 6 0 rfl rfl (v_in (by omega)) dX12_choices_281 ?_
                                                    refine lv_topi (fun x_154 ex_154 => ?_)
                                                    obtain ⟨f_155, ef_155⟩ : ∃ g : Nat → Int32, g = upd eHd (x_150 : Int32).toNatClampNeg x_154 := ⟨_, rfl⟩
                                                    refine va_iast hx hb hK hP hD hS 6 0 rfl rfl (v_in (by omega)) dX12_choices_282 (kWf (g := f_155) (F := fun f_155 => [(oM, .inr (12, [.ref mT, .int zt, .ref mS, .ref mX, .int zp, .int zf, .ref mL, .ref mB, .ref mD, .ref m1, .ref m2, .int zh, .ref mR, .int zr, .ref x1, .ref x2, .ref x3, .int zc, .ref mH, .int zy, .int za, .int zb, .int zs, .int zq, .int (-1), .int 0, .ref mY, .int zn_102, .ref mE, .int zm_102, .int zl_102, .ref mW, .int zk_102, .ref mO, .int zd_102, .ref y1, .ref y2, .ref y3, .ref y4, .ref mZ])), (mY, .inl (cI, 2600, .inl eY_102)), (mB, .inl (cS, 131072, .inl eB)), (mL, .inl (cI, 512, .inl eL)), (mE, .inl (cI, 2600, .inl eE_102)), (mW, .inl (cI, 300, .inl eW_102)), (mH, .inl (cI, 800, .inl f_155)), (mS, .inl (cI, 21, .inl eS)), (mX, .inl (cI, 6300, .inl eX)), (x1, .inl (cI, 300, .inl ec1)), (x2, .inl (cI, 300, .inl ec2)), (x3, .inl (cI, 300, .inl ec3))]) ef_155 rfl (fun H locs hPn hDn hSn => ?_))
                                                    clear hP hD hS
                                                    have hP := hPn
                                                    have hD := hDn
                                                    have hS := hSn
                                                    clear hPn hDn hSn
                                                    obtain ⟨x_156, ex_156⟩ : ∃ y : Int32, y = i + 1 := ⟨_, rfl⟩
                                                    have tx_156 : x_156.toInt = i.toInt + 1 := v_addR (l2 := 1) (h2 := 1) ex_156 g_i (by decide) (by decide) (by decide)
                                                    refine lv_iinc (v := x_156) (lv' := [(10, .int x_156), (9, .int k), (4, .int x_105), (7, .int r_104), (6, .int two), (5, .int one), (3, .int r_1), (0, .ref oM), (1, .int a), (2, .int b), (8, .int at_)]) hx hb dX12_choices_283 hl (k := 0) rfl (by rw [ex_156]; rfl) (by decide) rfl (fun ls hl => ?_)
                                                    refine lv_goto (tgt := 251) hx hb dX12_choices_286 (by decide) ?_
                                                    exact ih_251 x_156 f_155 _ _ _ (ms_lt hm_251 (by show ((4 - x_156.toInt : Int)) < 4 - i.toInt; omega) (by show (0 : Int) < 4 - i.toInt; omega)) (by show 0 ≤ x_156.toInt ∧ x_156.toInt ≤ 4; omega) (KPI_s (a := x_150) (c := x_153) hki (by omega) (by omega) (by omega) (by omega) ex_154 ef_155 (by omega)) hP hD hS (lv_sub hl [0, 1, 2, 3, 4, 5, 6, 7, 8, 9, 10] rfl)
                                              exact LOOP_251 _ 0 eHc _ _ _ (ms_s _) (by decide) (KPI_0 hkr rfl) hP hD hS (lv_sub hl [0, 1, 2, 3, 4, 5, 6, 7, 8, 9, 10] rfl)
                                        exact LOOP_241 _ x_132 eHb _ _ _ (ms_s _) (by show 0 ≤ x_132.toInt ∧ x_132.toInt ≤ 199; omega) (by show at_.toInt ≤ x_132.toInt; omega) (by show x_132.toInt ≤ x_132.toInt; omega) (KPR_0 rfl) hP hD hS (lv_sub hl [0, 1, 2, 3, 4, 5, 6, 7, 8, 9] rfl)
                                    · have tc_106 : at_.toInt = 200 := v_eq c_106
                                      refine lv_goto (tgt := 356) hx hb dX12_choices_218 (by decide) ?_
                                      obtain ⟨x_157, ex_157⟩ : ∃ y : Int32, y = two + 1 := ⟨_, rfl⟩
                                      have tx_157 : x_157.toInt = two.toInt + 1 := v_addR (l2 := 1) (h2 := 1) ex_157 g_two (by decide) (by decide) (by decide)
                                      refine lv_iinc (v := x_157) (lv' := [(6, .int x_157), (4, .int x_105), (7, .int r_104), (5, .int one), (3, .int r_1), (0, .ref oM), (1, .int a), (2, .int b), (8, .int at_)]) hx hb dX12_choices_356 hl (k := 2) rfl (by rw [ex_157]; rfl) (by decide) rfl (fun ls hl => ?_)
                                      refine lv_goto (tgt := 89) hx hb dX12_choices_359 (by decide) ?_
                                      exact ih_89 x_157 x_105 zn_102 zd_102 zm_102 zl_102 zk_102 eY_102 eE_102 eW_102 eHb _ _ _ (ms_lt hm_89 (by show ((256 - x_157.toInt : Int)) < 256 - two.toInt; omega) (by show (0 : Int) < 256 - two.toInt; omega)) (by show 0 ≤ x_157.toInt ∧ x_157.toInt ≤ 256; omega) (by show 0 ≤ x_105.toInt ∧ x_105.toInt ≤ 65536; omega) (hf102_0) (hf102_2) (hf102_4) (hf102_1) (hf102_3) (hf102_5) (by show x_105.toInt ≤ 256 * one.toInt + x_157.toInt; omega) (fld_s hfi (by rw [Nat.zero_add]; exact stp_y (vx_y (mk := 2) (o := one) (w := two) hv9 (by omega) (by omega) (Or.inr ⟨rfl, by omega⟩) hal1 (fun _ => hal2) hcc9) (by have c8 := v_clamp (x := x_105) (by omega); omega) (kp_id2 (rp_full (k1 := 200) (by rw [show (200 : Nat) = m200 n2.toNatClampNeg from (by have q9 := m2_v n2.toNatClampNeg; rw [if_neg (by omega)] at q9; omega)]; exact hsr9) (by rw [(ent2 (by omega)).2.2.1]; exact hsj.elim (fun z9 => by omega) (fun ⟨q9, q8, q7⟩ => (show q9 = 199 by omega) ▸ q7)) rfl) (by have q9 := m2_v n2.toNatClampNeg; rw [if_neg (by omega)] at q9; omega) (by have q9 := m2_v (n2.toNatClampNeg + 1); rw [if_neg (by omega)] at q9; omega))) (by rw [ix_eq (x := x_157) (N := two.toNatClampNeg + 1) (by omega)]; omega)) hP hD hS (lv_sub hl [0, 3, 1, 4, 5, 6, 7] rfl)
                                  refine lv_iload hx hb dX12_choices_162 (lv_at hl 3 rfl) ?_
                                  refine lv_sipush (v := 200) hx hb dX12_choices_164 (by decide) ?_
                                  refine lv_icmp_ge (tgt := 175) hx hb dX12_choices_167 (by decide) (fun c_158 => ?_) (fun c_158 => ?_)
                                  · have tc_158 : 200 ≤ n2.toInt := v_le c_158
                                    refine lv_sipush (v := 200) hx hb dX12_choices_175 (by decide) ?_
                                    refine lv_istore (lv' := [(8, .int 200), (7, .int r_104), (6, .int two), (5, .int one), (4, .int n2), (3, .int r_1), (0, .ref oM), (1, .int a), (2, .int b)]) hx hb dX12_choices_178 hl (by decide) rfl (fun ls hl => ?_)
                                    have LOOP_180 : ∀ (k_180 : Nat) (at0 : Int32) (H : Heap) (locs : List Loc) (ls : Array Slot), MSd (at0.toInt : Int) k_180 → (0 ≤ at0.toInt ∧ at0.toInt ≤ 200) → (at0.toInt ≤ n2.toInt) → (∀ i : Nat, at0.toInt ≤ i → i < m200 n2.toNatClampNeg → r_104.toInt < RA4 eHb i 2) → va_P (dC, dI) vwCl [(oM, .inr (12, [.ref mT, .int zt, .ref mS, .ref mX, .int zp, .int zf, .ref mL, .ref mB, .ref mD, .ref m1, .ref m2, .int zh, .ref mR, .int zr, .ref x1, .ref x2, .ref x3, .int zc, .ref mH, .int zy, .int za, .int zb, .int zs, .int zq, .int (-1), .int 0, .ref mY, .int zn_102, .ref mE, .int zm_102, .int zl_102, .ref mW, .int zk_102, .ref mO, .int zd_102, .ref y1, .ref y2, .ref y3, .ref y4, .ref mZ])), (mY, .inl (cI, 2600, .inl eY_102)), (mB, .inl (cS, 131072, .inl eB)), (mL, .inl (cI, 512, .inl eL)), (mE, .inl (cI, 2600, .inl eE_102)), (mW, .inl (cI, 300, .inl eW_102)), (mH, .inl (cI, 800, .inl eHb)), (mS, .inl (cI, 21, .inl eS)), (mX, .inl (cI, 6300, .inl eX)), (x1, .inl (cI, 300, .inl ec1)), (x2, .inl (cI, 300, .inl ec2)), (x3, .inl (cI, 300, .inl ec3))] H → va_D A [(oM, .inr (12, [.ref mT, .int zt, .ref mS, .ref mX, .int zp, .int zf, .ref mL, .ref mB, .ref mD, .ref m1, .ref m2, .int zh, .ref mR, .int zr, .ref x1, .ref x2, .ref x3, .int zc, .ref mH, .int zy, .int za, .int zb, .int zs, .int zq, .int (-1), .int 0, .ref mY, .int zn_102, .ref mE, .int zm_102, .int zl_102, .ref mW, .int zk_102, .ref mO, .int zd_102, .ref y1, .ref y2, .ref y3, .ref y4, .ref mZ])), (mY, .inl (cI, 2600, .inl eY_102)), (mB, .inl (cS, 131072, .inl eB)), (mL, .inl (cI, 512, .inl eL)), (mE, .inl (cI, 2600, .inl eE_102)), (mW, .inl (cI, 300, .inl eW_102)), (mH, .inl (cI, 800, .inl eHb)), (mS, .inl (cI, 21, .inl eS)), (mX, .inl (cI, 6300, .inl eX)), (x1, .inl (cI, 300, .inl ec1)), (x2, .inl (cI, 300, .inl ec2)), (x3, .inl (cI, 300, .inl ec3))] → va_S A s.heap H locs → lv_has ls 11 [(8, .int at0), (7, .int r_104), (6, .int two), (5, .int one), (4, .int n2), (3, .int r_1), (0, .ref oM), (1, .int a), (2, .int b)] → W p l e (headSpec wsX12_choices ({ frames := 4, cells := 0, slots := 0, locals := 97 } : Room)).room s m ([.ref oM, .int a, .int b] : List Value).toArray below meth c H locs 0 0 (MQ below QQ ([.ref oM, .int a, .int b] : List Value).toArray s 0 0 A) (F0 m 180 ls []) := by
                                      clear hP hD hS hl
                                      try (clear hf102_0 hf102_2 hf99_1 hf95_1 g_znb g_zmb g_zkb g_zna g_zma g_zka g_zy g_za g_zb g_zs g_zq g_zm g_zk hzs)
                                      intro k_180
                                      induction k_180 with
                                      | zero =>
                                        intro at0 H locs ls hm_180 g_at0 hat0 hbg hP hD hS hl
                                        exact ms_0 hm_180
                                      | succ k_180 ih_180 =>
                                        intro at0 H locs ls hm_180 g_at0 hat0 hbg hP hD hS hl
                                        refine lv_iload hx hb dX12_choices_180 (lv_at hl 0 rfl) ?_
                                        refine lv_if_le (tgt := 207) hx hb dX12_choices_182 (by decide) (fun c_159 => ?_) (fun c_159 => ?_)
                                        · have tc_159 : at0.toInt ≤ 0 := v_le c_159
                                          exact JOIN_j207 at0 _ _ _ (g_at0) (by show at0.toInt ≤ n2.toInt; omega) (hbg) (Or.inl (by omega)) hP hD hS (lv_sub hl [1, 2, 3, 4, 5, 6, 7, 8, 0] rfl)
                                        · have tc_159 : 0 < at0.toInt := v_nle c_159
                                          refine lv_aload_n hx hb dX12_choices_185 rfl (lv_at hl 6 rfl) ?_
                                          refine va_get (D := (dC, dI)) (ci := 12) (v := .ref mH) (C := RX12) (T := TX12) (N := 40) hx hb hts in_X12 hown hK hP 0 rfl rfl 18 (Nat.le_of_ble_eq_true rfl) (hts (.fieldLink RX12 48 "TextMenderModel" "choices" "[I") (List.mem_of_getElem? (i := 7) rfl)) (fun _ h9 => h9) rfl dX12_choices_186 ?_
                                          refine lv_iconst (v := 4) hx hb dX12_choices_189 (by decide) ?_
                                          refine lv_iload hx hb dX12_choices_190 (lv_at hl 0 rfl) ?_
                                          refine lv_imul hx hb dX12_choices_192 ?_
                                          refine lv_topi (fun x_160 ex_160 => ?_)
                                          have tx_160 : x_160.toInt = 4 * at0.toInt := v_mul ex_160 (by show -2147483648 ≤ 4 * at0.toInt; omega) (by show 4 * at0.toInt < 2147483648; omega)
                                          refine lv_iconst (v := 2) hx hb dX12_choices_193 (by decide) ?_
                                          refine lv_isub hx hb dX12_choices_194 ?_
                                          refine lv_topi (fun x_161 ex_161 => ?_)
                                          have tx_161 : x_161.toInt = x_160.toInt - 2 := v_sub ex_161 (by show -2147483648 ≤ x_160.toInt - 2; omega) (by show x_160.toInt - 2 < 2147483648; omega)
                                          refine va_iald hx hb hK hP 6 0 rfl rfl (v_in (by omega)) dX12_choices_195 ?_
                                          refine lv_topi (fun x_162 ex_162 => ?_)
                                          refine lv_iload hx hb dX12_choices_196 (lv_at hl 1 rfl) ?_
                                          refine lv_icmp_le (tgt := 207) hx hb dX12_choices_198 (by decide) (fun c_163 => ?_) (fun c_163 => ?_)
                                          · have tc_163 : x_162.toInt ≤ r_104.toInt := v_le c_163
                                            have rw163_0 := v_rng x_162
                                            exact JOIN_j207 at0 _ _ _ (g_at0) (by show at0.toInt ≤ n2.toInt; omega) (hbg) (Or.inr ⟨(at0.toInt - 1).toNat, by omega, by show (eHb (4 * (at0.toInt - 1).toNat + 2)).toInt ≤ _; rw [← ix_eq (x := x_161) (N := 4 * (at0.toInt - 1).toNat + 2) (by omega), ← ex_162]; omega⟩) hP hD hS (lv_sub hl [1, 2, 3, 4, 5, 6, 7, 8, 0] rfl)
                                          · have tc_163 : r_104.toInt < x_162.toInt := v_nle c_163
                                            have rw163_0 := v_rng x_162
                                            obtain ⟨x_164, ex_164⟩ : ∃ y : Int32, y = at0 + (-1) := ⟨_, rfl⟩
                                            have tx_164 : x_164.toInt = at0.toInt + (-1) := v_addR (l2 := (-1)) (h2 := (-1)) ex_164 g_at0 (by decide) (by decide) (by decide)
                                            refine lv_iinc (v := x_164) (lv' := [(8, .int x_164), (7, .int r_104), (6, .int two), (5, .int one), (4, .int n2), (3, .int r_1), (0, .ref oM), (1, .int a), (2, .int b)]) hx hb dX12_choices_201 hl (k := 0) rfl (by rw [ex_164]; rfl) (by decide) rfl (fun ls hl => ?_)
                                            refine lv_goto (tgt := 180) hx hb dX12_choices_204 (by decide) ?_
                                            exact ih_180 x_164 _ _ _ (ms_lt hm_180 (by show ((x_164.toInt : Int)) < at0.toInt; omega) (by show (0 : Int) < at0.toInt; omega)) (by show 0 ≤ x_164.toInt ∧ x_164.toInt ≤ 200; omega) (by show x_164.toInt ≤ n2.toInt; omega) (fun i h1 h2 => if z9 : (i : Int) = at0.toInt - 1 then (by rw [show i = (at0.toInt - 1).toNat by omega]; show _ < (eHb (4 * (at0.toInt - 1).toNat + 2)).toInt; rw [← ix_eq (x := x_161) (N := 4 * (at0.toInt - 1).toNat + 2) (by omega), ← ex_162]; omega) else hbg i (by omega) h2) hP hD hS (lv_sub hl [0, 1, 2, 3, 4, 5, 6, 7, 8] rfl)
                                    exact LOOP_180 _ 200 _ _ _ (ms_s _) (by decide) (by show 200 ≤ n2.toInt; omega) (fun i h1 h2 => by have q9 := m200_l n2.toNatClampNeg; omega) hP hD hS (lv_sub hl [0, 1, 2, 3, 4, 5, 6, 7, 8] rfl)
                                  · have tc_158 : n2.toInt < 200 := v_nle c_158
                                    refine lv_iload hx hb dX12_choices_170 (lv_at hl 3 rfl) ?_
                                    refine lv_goto (tgt := 178) hx hb dX12_choices_172 (by decide) ?_
                                    refine lv_istore (lv' := [(8, .int n2), (7, .int r_104), (6, .int two), (5, .int one), (4, .int n2), (3, .int r_1), (0, .ref oM), (1, .int a), (2, .int b)]) hx hb dX12_choices_178 hl (by decide) rfl (fun ls hl => ?_)
                                    have LOOP_180 : ∀ (k_180 : Nat) (at0 : Int32) (H : Heap) (locs : List Loc) (ls : Array Slot), MSd (at0.toInt : Int) k_180 → (0 ≤ at0.toInt ∧ at0.toInt ≤ 200) → (at0.toInt ≤ n2.toInt) → (∀ i : Nat, at0.toInt ≤ i → i < m200 n2.toNatClampNeg → r_104.toInt < RA4 eHb i 2) → va_P (dC, dI) vwCl [(oM, .inr (12, [.ref mT, .int zt, .ref mS, .ref mX, .int zp, .int zf, .ref mL, .ref mB, .ref mD, .ref m1, .ref m2, .int zh, .ref mR, .int zr, .ref x1, .ref x2, .ref x3, .int zc, .ref mH, .int zy, .int za, .int zb, .int zs, .int zq, .int (-1), .int 0, .ref mY, .int zn_102, .ref mE, .int zm_102, .int zl_102, .ref mW, .int zk_102, .ref mO, .int zd_102, .ref y1, .ref y2, .ref y3, .ref y4, .ref mZ])), (mY, .inl (cI, 2600, .inl eY_102)), (mB, .inl (cS, 131072, .inl eB)), (mL, .inl (cI, 512, .inl eL)), (mE, .inl (cI, 2600, .inl eE_102)), (mW, .inl (cI, 300, .inl eW_102)), (mH, .inl (cI, 800, .inl eHb)), (mS, .inl (cI, 21, .inl eS)), (mX, .inl (cI, 6300, .inl eX)), (x1, .inl (cI, 300, .inl ec1)), (x2, .inl (cI, 300, .inl ec2)), (x3, .inl (cI, 300, .inl ec3))] H → va_D A [(oM, .inr (12, [.ref mT, .int zt, .ref mS, .ref mX, .int zp, .int zf, .ref mL, .ref mB, .ref mD, .ref m1, .ref m2, .int zh, .ref mR, .int zr, .ref x1, .ref x2, .ref x3, .int zc, .ref mH, .int zy, .int za, .int zb, .int zs, .int zq, .int (-1), .int 0, .ref mY, .int zn_102, .ref mE, .int zm_102, .int zl_102, .ref mW, .int zk_102, .ref mO, .int zd_102, .ref y1, .ref y2, .ref y3, .ref y4, .ref mZ])), (mY, .inl (cI, 2600, .inl eY_102)), (mB, .inl (cS, 131072, .inl eB)), (mL, .inl (cI, 512, .inl eL)), (mE, .inl (cI, 2600, .inl eE_102)), (mW, .inl (cI, 300, .inl eW_102)), (mH, .inl (cI, 800, .inl eHb)), (mS, .inl (cI, 21, .inl eS)), (mX, .inl (cI, 6300, .inl eX)), (x1, .inl (cI, 300, .inl ec1)), (x2, .inl (cI, 300, .inl ec2)), (x3, .inl (cI, 300, .inl ec3))] → va_S A s.heap H locs → lv_has ls 11 [(8, .int at0), (7, .int r_104), (6, .int two), (5, .int one), (4, .int n2), (3, .int r_1), (0, .ref oM), (1, .int a), (2, .int b)] → W p l e (headSpec wsX12_choices ({ frames := 4, cells := 0, slots := 0, locals := 97 } : Room)).room s m ([.ref oM, .int a, .int b] : List Value).toArray below meth c H locs 0 0 (MQ below QQ ([.ref oM, .int a, .int b] : List Value).toArray s 0 0 A) (F0 m 180 ls []) := by
                                      clear hP hD hS hl
                                      try (clear hf102_0 hf102_2 hf99_1 hf95_1 g_znb g_zmb g_zkb g_zna g_zma g_zka g_zy g_za g_zb g_zs g_zq g_zm g_zk hzs)
                                      intro k_180
                                      induction k_180 with
                                      | zero =>
                                        intro at0 H locs ls hm_180 g_at0 hat0 hbg hP hD hS hl
                                        exact ms_0 hm_180
                                      | succ k_180 ih_180 =>
                                        intro at0 H locs ls hm_180 g_at0 hat0 hbg hP hD hS hl
                                        refine lv_iload hx hb dX12_choices_180 (lv_at hl 0 rfl) ?_
                                        refine lv_if_le (tgt := 207) hx hb dX12_choices_182 (by decide) (fun c_165 => ?_) (fun c_165 => ?_)
                                        · have tc_165 : at0.toInt ≤ 0 := v_le c_165
                                          exact JOIN_j207 at0 _ _ _ (g_at0) (by show at0.toInt ≤ n2.toInt; omega) (hbg) (Or.inl (by omega)) hP hD hS (lv_sub hl [1, 2, 3, 4, 5, 6, 7, 8, 0] rfl)
                                        · have tc_165 : 0 < at0.toInt := v_nle c_165
                                          refine lv_aload_n hx hb dX12_choices_185 rfl (lv_at hl 6 rfl) ?_
                                          refine va_get (D := (dC, dI)) (ci := 12) (v := .ref mH) (C := RX12) (T := TX12) (N := 40) hx hb hts in_X12 hown hK hP 0 rfl rfl 18 (Nat.le_of_ble_eq_true rfl) (hts (.fieldLink RX12 48 "TextMenderModel" "choices" "[I") (List.mem_of_getElem? (i := 7) rfl)) (fun _ h9 => h9) rfl dX12_choices_186 ?_
                                          refine lv_iconst (v := 4) hx hb dX12_choices_189 (by decide) ?_
                                          refine lv_iload hx hb dX12_choices_190 (lv_at hl 0 rfl) ?_
                                          refine lv_imul hx hb dX12_choices_192 ?_
                                          refine lv_topi (fun x_166 ex_166 => ?_)
                                          have tx_166 : x_166.toInt = 4 * at0.toInt := v_mul ex_166 (by show -2147483648 ≤ 4 * at0.toInt; omega) (by show 4 * at0.toInt < 2147483648; omega)
                                          refine lv_iconst (v := 2) hx hb dX12_choices_193 (by decide) ?_
                                          refine lv_isub hx hb dX12_choices_194 ?_
                                          refine lv_topi (fun x_167 ex_167 => ?_)
                                          have tx_167 : x_167.toInt = x_166.toInt - 2 := v_sub ex_167 (by show -2147483648 ≤ x_166.toInt - 2; omega) (by show x_166.toInt - 2 < 2147483648; omega)
                                          refine va_iald hx hb hK hP 6 0 rfl rfl (v_in (by omega)) dX12_choices_195 ?_
                                          refine lv_topi (fun x_168 ex_168 => ?_)
                                          refine lv_iload hx hb dX12_choices_196 (lv_at hl 1 rfl) ?_
                                          refine lv_icmp_le (tgt := 207) hx hb dX12_choices_198 (by decide) (fun c_169 => ?_) (fun c_169 => ?_)
                                          · have tc_169 : x_168.toInt ≤ r_104.toInt := v_le c_169
                                            have rw169_0 := v_rng x_168
                                            exact JOIN_j207 at0 _ _ _ (g_at0) (by show at0.toInt ≤ n2.toInt; omega) (hbg) (Or.inr ⟨(at0.toInt - 1).toNat, by omega, by show (eHb (4 * (at0.toInt - 1).toNat + 2)).toInt ≤ _; rw [← ix_eq (x := x_167) (N := 4 * (at0.toInt - 1).toNat + 2) (by omega), ← ex_168]; omega⟩) hP hD hS (lv_sub hl [1, 2, 3, 4, 5, 6, 7, 8, 0] rfl)
                                          · have tc_169 : r_104.toInt < x_168.toInt := v_nle c_169
                                            have rw169_0 := v_rng x_168
                                            obtain ⟨x_170, ex_170⟩ : ∃ y : Int32, y = at0 + (-1) := ⟨_, rfl⟩
                                            have tx_170 : x_170.toInt = at0.toInt + (-1) := v_addR (l2 := (-1)) (h2 := (-1)) ex_170 g_at0 (by decide) (by decide) (by decide)
                                            refine lv_iinc (v := x_170) (lv' := [(8, .int x_170), (7, .int r_104), (6, .int two), (5, .int one), (4, .int n2), (3, .int r_1), (0, .ref oM), (1, .int a), (2, .int b)]) hx hb dX12_choices_201 hl (k := 0) rfl (by rw [ex_170]; rfl) (by decide) rfl (fun ls hl => ?_)
                                            refine lv_goto (tgt := 180) hx hb dX12_choices_204 (by decide) ?_
                                            exact ih_180 x_170 _ _ _ (ms_lt hm_180 (by show ((x_170.toInt : Int)) < at0.toInt; omega) (by show (0 : Int) < at0.toInt; omega)) (by show 0 ≤ x_170.toInt ∧ x_170.toInt ≤ 200; omega) (by show x_170.toInt ≤ n2.toInt; omega) (fun i h1 h2 => if z9 : (i : Int) = at0.toInt - 1 then (by rw [show i = (at0.toInt - 1).toNat by omega]; show _ < (eHb (4 * (at0.toInt - 1).toNat + 2)).toInt; rw [← ix_eq (x := x_167) (N := 4 * (at0.toInt - 1).toNat + 2) (by omega), ← ex_168]; omega) else hbg i (by omega) h2) hP hD hS (lv_sub hl [0, 1, 2, 3, 4, 5, 6, 7, 8] rfl)
                                    exact LOOP_180 _ n2 _ _ _ (ms_s _) (by show 0 ≤ n2.toInt ∧ n2.toInt ≤ 200; omega) (by show n2.toInt ≤ n2.toInt; omega) (fun i h1 h2 => by have q9 := m200_l n2.toNatClampNeg; omega) hP hD hS (lv_sub hl [0, 1, 2, 3, 4, 5, 6, 7, 8] rfl)
                                · have tc_103 : r_102.toInt = 0 := v_eq c_103
                                  refine lv_goto (tgt := 356) hx hb dX12_choices_144 (by decide) ?_
                                  obtain ⟨x_171, ex_171⟩ : ∃ y : Int32, y = two + 1 := ⟨_, rfl⟩
                                  have tx_171 : x_171.toInt = two.toInt + 1 := v_addR (l2 := 1) (h2 := 1) ex_171 g_two (by decide) (by decide) (by decide)
                                  refine lv_iinc (v := x_171) (lv' := [(6, .int x_171), (5, .int one), (4, .int n2), (3, .int r_1), (0, .ref oM), (1, .int a), (2, .int b)]) hx hb dX12_choices_356 hl (k := 0) rfl (by rw [ex_171]; rfl) (by decide) rfl (fun ls hl => ?_)
                                  refine lv_goto (tgt := 89) hx hb dX12_choices_359 (by decide) ?_
                                  exact ih_89 x_171 n2 zn_102 zd_102 zm_102 zl_102 zk_102 eY_102 eE_102 eW_102 eHb _ _ _ (ms_lt hm_89 (by show ((256 - x_171.toInt : Int)) < 256 - two.toInt; omega) (by show (0 : Int) < 256 - two.toInt; omega)) (by show 0 ≤ x_171.toInt ∧ x_171.toInt ≤ 256; omega) (g_n2) (hf102_0) (hf102_2) (hf102_4) (hf102_1) (hf102_3) (hf102_5) (by show n2.toInt ≤ 256 * one.toInt + x_171.toInt; omega) (fld_n hfi (by rw [Nat.zero_add]; exact vch_no (o := one) (w := two) (Or.inr ⟨rfl, by omega⟩) (by omega) (by omega) (Or.inr (Or.inr (ic_0 hf102_7 (by omega))))) (by rw [ix_eq (x := x_171) (N := two.toNatClampNeg + 1) (by omega)]; omega)) hP hD hS (lv_sub hl [0, 1, 2, 3, 4, 5, 6] rfl)
                      exact LOOP_89 _ 0 n zna zda zma zla zka eYa eEa eWa eHa _ _ _ (ms_s _) (by decide) (g_n) (g_zna) (g_zma) (g_zka) (g_eYa) (g_eEa) (g_eWa) (by show n.toInt ≤ 256 * one.toInt + 0; omega) (fld_e hfl (by have z9 : Int32.toNatClampNeg 0 = 0 := rfl; omega) rfl) hP hD hS (lv_sub hl [0, 1, 2, 3, 4, 5, 6] rfl)
                exact LOOP_78 _ 0 0 zn_10 zd zm zl_10 zk eY_10 eE eW eH _ _ _ (ms_s _) (by decide) (by decide) (hf10_0) (g_zm) (g_zk) (hf10_1) (g_eE) (g_eW) (by show 0 ≤ 256 * 0; omega) (⟨rfl, fun i hi => absurd hi (Nat.not_lt_zero _)⟩) hP hD hS (lv_sub hl [0, 1, 2, 3, 4, 5] rfl)
            · have tc_11 : r_10.toInt = 0 := v_eq c_11
              refine lv_aload_n hx hb dX12_choices_62 rfl (lv_at hl 1 rfl) ?_
              refine lv_aload_n hx hb dX12_choices_63 rfl (lv_at hl 1 rfl) ?_
              refine va_get (D := (dC, dI)) (ci := 12) (v := .int zl_10) (C := RX12) (T := TX12) (N := 40) hx hb hts in_X12 hown hK hP 0 rfl rfl 30 (Nat.le_of_ble_eq_true rfl) (hts (.fieldLink RX12 102 "TextMenderModel" "faultAt" "I") (List.mem_of_getElem? (i := 4) rfl)) (fun _ h9 => h9) rfl dX12_choices_64 ?_
              refine va_put (D := (dC, dI)) (ci := 12) (v := .int zl_10) (ty := .int) (C := RX12) (T := TX12) (N := 40) hx hb hts in_X12 tyX12 tyX12_ok nmX12 hown hK hP hD hS 0 rfl rfl 24 (Nat.le_of_ble_eq_true rfl) (hts (.fieldLink RX12 55 "TextMenderModel" "where" "I") (List.mem_of_getElem? (i := 2) rfl)) (fun _ h9 => h9) rfl (tyX12_ok 24 (Nat.le_of_ble_eq_true rfl)) rfl rfl (Nat.le_of_ble_eq_true rfl) dX12_choices_67 (kW (wn := [(oM, .inr (12, [.ref mT, .int zt, .ref mS, .ref mX, .int zp, .int zf, .ref mL, .ref mB, .ref mD, .ref m1, .ref m2, .int zh, .ref mR, .int zr, .ref x1, .ref x2, .ref x3, .int zc, .ref mH, .int zy, .int za, .int zb, .int zs, .int zq, .int zl_10, .int 0, .ref mY, .int zn_10, .ref mE, .int zm, .int zl_10, .ref mW, .int zk, .ref mO, .int zd, .ref y1, .ref y2, .ref y3, .ref y4, .ref mZ])), (mY, .inl (cI, 2600, .inl eY_10)), (mB, .inl (cS, 131072, .inl eB)), (mL, .inl (cI, 512, .inl eL)), (mE, .inl (cI, 2600, .inl eE)), (mW, .inl (cI, 300, .inl eW)), (mH, .inl (cI, 800, .inl eH)), (mS, .inl (cI, 21, .inl eS)), (mX, .inl (cI, 6300, .inl eX)), (x1, .inl (cI, 300, .inl ec1)), (x2, .inl (cI, 300, .inl ec2)), (x3, .inl (cI, 300, .inl ec3))]) rfl (fun H locs hPn hDn hSn => ?_))
              clear hP hD hS
              have hP := hPn
              have hD := hDn
              have hS := hSn
              clear hPn hDn hSn
              refine lv_iconst (v := (-1)) hx hb dX12_choices_70 (by decide) ?_
              exact kl_i (v := (-1)) hQQ hx hb hr hlocks hS dX12_choices_71 (fun PZ9 kZ9 => kZ9 0 zl_10 zy za zb zq eH zn_10 eY_10 zd zm zl_10 eE zk eW (⟨hP, hD⟩) (g_zy) (g_za) (g_zb) (g_zq) (hf10_0) (hf10_1) (g_zm) (g_eE) (g_zk) (g_eW) (Or.inr ⟨fun h9 => ww_no hf10_4 (by omega) h9.2.2.2.2, rfl, ⟨rfl, rfl, rfl, rfl, rfl⟩⟩))
          · have tc_9 : 100 < x_8.toInt := v_nle c_9
            refine lv_iconst (v := (-1)) hx hb dX12_choices_50 (by decide) ?_
            exact kl_i (v := (-1)) hQQ hx hb hr hlocks hS dX12_choices_51 (fun PZ9 kZ9 => kZ9 0 (-1) zy za zb zq eH zn eY zd zm zl eE zk eW (⟨hP, hD⟩) (g_zy) (g_za) (g_zb) (g_zq) (g_zn) (g_eY) (g_zm) (g_eE) (g_zk) (g_eW) (Or.inr ⟨fun h9 => by have h1 := h9.1; have h2 := h9.2.1; have h3 := h9.2.2.1; have h4 := h9.2.2.2.1; unfold okd at h1 h2; omega, rfl, ⟨rfl, rfl, rfl, rfl, rfl⟩⟩))

end

/-! 5t.a.rows -/
section
set_option maxRecDepth 100000 in
theorem dA369_cX12_chosen : kDec cX12_chosen [(0, .aload_n 0, 1), (1, .iconst 0, 1), (2, .putfield 85, 3), (5, .aload_n 0, 1), (6, .iload_n 1, 1), (7, .invokevirtual 222, 3), (10, .ifCond .eq 14, 3), (24, .iconst 0, 1), (25, .ireturn, 1), (13, .aload_n 0, 1), (14, .getfield 51, 3), (17, .aload_n 0, 1), (18, .getfield 148, 3), (21, .if_icmp .eq 5, 3), (26, .aload_n 0, 1), (27, .aload_n 0, 1), (28, .getfield 216, 3), (31, .aload_n 0, 1), (32, .getfield 219, 3), (35, .aload_n 0, 1), (36, .getfield 48, 3), (39, .iconst 4, 1), (40, .iload_n 1, 1), (41, .imul, 1)] = true := by decide +kernel
theorem dX12_chosen_0 : decode cX12_chosen 0 = .ok (.aload_n 0, 1) := kDec_at dA369_cX12_chosen 0 rfl
theorem dX12_chosen_1 : decode cX12_chosen 1 = .ok (.iconst 0, 1) := kDec_at dA369_cX12_chosen 1 rfl
theorem dX12_chosen_2 : decode cX12_chosen 2 = .ok (.putfield 85, 3) := kDec_at dA369_cX12_chosen 2 rfl
theorem dX12_chosen_5 : decode cX12_chosen 5 = .ok (.aload_n 0, 1) := kDec_at dA369_cX12_chosen 3 rfl
theorem dX12_chosen_6 : decode cX12_chosen 6 = .ok (.iload_n 1, 1) := kDec_at dA369_cX12_chosen 4 rfl
theorem dX12_chosen_7 : decode cX12_chosen 7 = .ok (.invokevirtual 222, 3) := kDec_at dA369_cX12_chosen 5 rfl
theorem dX12_chosen_10 : decode cX12_chosen 10 = .ok (.ifCond .eq 14, 3) := kDec_at dA369_cX12_chosen 6 rfl
theorem dX12_chosen_24 : decode cX12_chosen 24 = .ok (.iconst 0, 1) := kDec_at dA369_cX12_chosen 7 rfl
theorem dX12_chosen_25 : decode cX12_chosen 25 = .ok (.ireturn, 1) := kDec_at dA369_cX12_chosen 8 rfl
theorem dX12_chosen_13 : decode cX12_chosen 13 = .ok (.aload_n 0, 1) := kDec_at dA369_cX12_chosen 9 rfl
theorem dX12_chosen_14 : decode cX12_chosen 14 = .ok (.getfield 51, 3) := kDec_at dA369_cX12_chosen 10 rfl
theorem dX12_chosen_17 : decode cX12_chosen 17 = .ok (.aload_n 0, 1) := kDec_at dA369_cX12_chosen 11 rfl
theorem dX12_chosen_18 : decode cX12_chosen 18 = .ok (.getfield 148, 3) := kDec_at dA369_cX12_chosen 12 rfl
theorem dX12_chosen_21 : decode cX12_chosen 21 = .ok (.if_icmp .eq 5, 3) := kDec_at dA369_cX12_chosen 13 rfl
theorem dX12_chosen_26 : decode cX12_chosen 26 = .ok (.aload_n 0, 1) := kDec_at dA369_cX12_chosen 14 rfl
theorem dX12_chosen_27 : decode cX12_chosen 27 = .ok (.aload_n 0, 1) := kDec_at dA369_cX12_chosen 15 rfl
theorem dX12_chosen_28 : decode cX12_chosen 28 = .ok (.getfield 216, 3) := kDec_at dA369_cX12_chosen 16 rfl
theorem dX12_chosen_31 : decode cX12_chosen 31 = .ok (.aload_n 0, 1) := kDec_at dA369_cX12_chosen 17 rfl
theorem dX12_chosen_32 : decode cX12_chosen 32 = .ok (.getfield 219, 3) := kDec_at dA369_cX12_chosen 18 rfl
theorem dX12_chosen_35 : decode cX12_chosen 35 = .ok (.aload_n 0, 1) := kDec_at dA369_cX12_chosen 19 rfl
theorem dX12_chosen_36 : decode cX12_chosen 36 = .ok (.getfield 48, 3) := kDec_at dA369_cX12_chosen 20 rfl
theorem dX12_chosen_39 : decode cX12_chosen 39 = .ok (.iconst 4, 1) := kDec_at dA369_cX12_chosen 21 rfl
theorem dX12_chosen_40 : decode cX12_chosen 40 = .ok (.iload_n 1, 1) := kDec_at dA369_cX12_chosen 22 rfl
theorem dX12_chosen_41 : decode cX12_chosen 41 = .ok (.imul, 1) := kDec_at dA369_cX12_chosen 23 rfl
set_option maxRecDepth 20000 in
theorem ggX12_chosen_X12_isToldChoice : GoodIn wsX12_chosen wsX12_isToldChoice := goodIn_sub (fun _ h => List.mem_cons_of_mem _ (List.mem_append_left _ (List.mem_append_left _ (List.mem_append_right _ (h))))) gX12_isToldChoice_all
set_option maxRecDepth 20000 in
theorem gX12_chosen_X12_isToldChoice : GoodIn wsX12_chosen (wsV RX12 222 RX12 yX12_isToldChoice wsX12_isToldChoice) := goodIn_app (goodIn_r _ [9, 10, 11, 12] rfl (by decide +kernel)) ggX12_chosen_X12_isToldChoice
set_option maxRecDepth 100000 in
theorem dA370_cX12_chosen : kDec cX12_chosen [(42, .iaload, 1), (43, .aload_n 0, 1), (44, .getfield 48, 3), (47, .iconst 4, 1), (48, .iload_n 1, 1), (49, .imul, 1), (50, .iconst 1, 1), (51, .iadd, 1), (52, .iaload, 1), (53, .invokevirtual 209, 3), (56, .pop, 1), (57, .aload_n 0, 1), (58, .aload_n 0, 1), (59, .getfield 64, 3), (62, .aload_n 0, 1), (63, .getfield 135, 3), (66, .invokevirtual 154, 3), (69, .iconst 1, 1), (70, .ireturn, 1)] = true := by decide +kernel
theorem dX12_chosen_42 : decode cX12_chosen 42 = .ok (.iaload, 1) := kDec_at dA370_cX12_chosen 0 rfl
theorem dX12_chosen_43 : decode cX12_chosen 43 = .ok (.aload_n 0, 1) := kDec_at dA370_cX12_chosen 1 rfl
theorem dX12_chosen_44 : decode cX12_chosen 44 = .ok (.getfield 48, 3) := kDec_at dA370_cX12_chosen 2 rfl
theorem dX12_chosen_47 : decode cX12_chosen 47 = .ok (.iconst 4, 1) := kDec_at dA370_cX12_chosen 3 rfl
theorem dX12_chosen_48 : decode cX12_chosen 48 = .ok (.iload_n 1, 1) := kDec_at dA370_cX12_chosen 4 rfl
theorem dX12_chosen_49 : decode cX12_chosen 49 = .ok (.imul, 1) := kDec_at dA370_cX12_chosen 5 rfl
theorem dX12_chosen_50 : decode cX12_chosen 50 = .ok (.iconst 1, 1) := kDec_at dA370_cX12_chosen 6 rfl
theorem dX12_chosen_51 : decode cX12_chosen 51 = .ok (.iadd, 1) := kDec_at dA370_cX12_chosen 7 rfl
theorem dX12_chosen_52 : decode cX12_chosen 52 = .ok (.iaload, 1) := kDec_at dA370_cX12_chosen 8 rfl
theorem dX12_chosen_53 : decode cX12_chosen 53 = .ok (.invokevirtual 209, 3) := kDec_at dA370_cX12_chosen 9 rfl
theorem dX12_chosen_56 : decode cX12_chosen 56 = .ok (.pop, 1) := kDec_at dA370_cX12_chosen 10 rfl
theorem dX12_chosen_57 : decode cX12_chosen 57 = .ok (.aload_n 0, 1) := kDec_at dA370_cX12_chosen 11 rfl
theorem dX12_chosen_58 : decode cX12_chosen 58 = .ok (.aload_n 0, 1) := kDec_at dA370_cX12_chosen 12 rfl
theorem dX12_chosen_59 : decode cX12_chosen 59 = .ok (.getfield 64, 3) := kDec_at dA370_cX12_chosen 13 rfl
theorem dX12_chosen_62 : decode cX12_chosen 62 = .ok (.aload_n 0, 1) := kDec_at dA370_cX12_chosen 14 rfl
theorem dX12_chosen_63 : decode cX12_chosen 63 = .ok (.getfield 135, 3) := kDec_at dA370_cX12_chosen 15 rfl
theorem dX12_chosen_66 : decode cX12_chosen 66 = .ok (.invokevirtual 154, 3) := kDec_at dA370_cX12_chosen 16 rfl
theorem dX12_chosen_69 : decode cX12_chosen 69 = .ok (.iconst 1, 1) := kDec_at dA370_cX12_chosen 17 rfl
theorem dX12_chosen_70 : decode cX12_chosen 70 = .ok (.ireturn, 1) := kDec_at dA370_cX12_chosen 18 rfl
set_option maxRecDepth 20000 in
theorem ggX12_chosen_X12_isChoice : GoodIn wsX12_chosen wsX12_isChoice := goodIn_sub (fun _ h => List.mem_cons_of_mem _ (List.mem_append_left _ (List.mem_append_right _ (h)))) gX12_isChoice_all
set_option maxRecDepth 20000 in
theorem gX12_chosen_X12_isChoice : GoodIn wsX12_chosen (wsV RX12 209 RX12 yX12_isChoice wsX12_isChoice) := goodIn_app (goodIn_r _ [13, 14, 15, 12] rfl (by decide +kernel)) ggX12_chosen_X12_isChoice
set_option maxRecDepth 20000 in
theorem ggX12_chosen_X12_become : GoodIn wsX12_chosen wsX12_become := goodIn_sub (fun _ h => List.mem_cons_of_mem _ (List.mem_append_right _ (h))) gX12_become_all
set_option maxRecDepth 20000 in
theorem gX12_chosen_X12_become : GoodIn wsX12_chosen (wsV RX12 154 RX12 yX12_become wsX12_become) := goodIn_app (goodIn_r _ [16, 17, 18, 12] rfl (by decide +kernel)) ggX12_chosen_X12_become

end

/-! 5t.chs -/
section
def frsR (zq zs zy za zb : Int32) (eH eL f : Nat → Int32) (Bf : Int32 → Int32 → Int32) (n : Nat) : Prop := zq.toInt = zs.toInt → (mkB f n = 1 ∨ mkB f n = 2) ∧ n ≤ 100 ∧ ∀ i : Nat, (i : Int) < zy.toInt → i < 200 → ((0 ≤ (eH (4 * i)).toInt ∧ (eH (4 * i)).toInt ≤ 255) ∧ (-1 ≤ (eH (4 * i + 1)).toInt ∧ (eH (4 * i + 1)).toInt ≤ 255) ∧ (mkB f n ≤ 1 ∨ 0 ≤ (eH (4 * i + 1)).toInt)) ∧ alF zb (eH (4 * i)) (fun k => eL k) (fun k => eL (256 + k)) = -1 ∧ (mkB f n ≤ 1 ∨ alF zb (eH (4 * i + 1)) (fun k => eL k) (fun k => eL (256 + k)) = -1) ∧ ∃ (c : Nat) (f' : Nat → Int32), VCH za zb (fun k => eL k) (fun k => eL (256 + k)) (Bf zb) n f (eH (4 * i)).toInt (eH (4 * i + 1)).toInt c f'
def csR (zq zs zy za zb i : Int32) (eH eL f : Nat → Int32) (Bf : Int32 → Int32) (n : Nat) (c : Nat) (fm : Nat → Int32) (v : Int) : Prop := v = 1 ∧ (zq.toInt = zs.toInt ∧ 0 ≤ i.toInt ∧ i.toInt < zy.toInt ∧ i.toInt < 200) ∧ VCH za zb (fun k => eL k) (fun k => eL (256 + k)) Bf n f (eH (4 * i.toNatClampNeg)).toInt (eH (4 * i.toNatClampNeg + 1)).toInt c fm

set_option maxHeartbeats 40000000 in
set_option maxRecDepth 100000 in
theorem f_X12_isToldChoice (l : Launch) (dC : Nat → ClassId) (dI : Nat → Nat → Nat) (cI cS : ClassId) (sz : Nat) (oM : Nat) (mT : Nat) (mS : Nat) (mX : Nat) (mL : Nat) (mB : Nat) (mD : Nat) (m1 : Nat) (m2 : Nat) (mR : Nat) (x1 : Nat) (x2 : Nat) (x3 : Nat) (mH : Nat) (mY : Nat) (mE : Nat) (mW : Nat) (mO : Nat) (y1 : Nat) (y2 : Nat) (y3 : Nat) (y4 : Nat) (mZ : Nat) (zt : Int32) (zp : Int32) (zf : Int32) (zh : Int32) (zr : Int32) (zc : Int32) (zy : Int32) (za : Int32) (zb : Int32) (zs : Int32) (zq : Int32) (zw : Int32) (ze : Int32) (zn : Int32) (zm : Int32) (zl : Int32) (zk : Int32) (zd : Int32) (i : Int32) (g_zt : 0 ≤ zt.toInt ∧ zt.toInt ≤ 900) (g_zp : 0 ≤ zp.toInt ∧ zp.toInt ≤ 20) (g_zf : 0 ≤ zf.toInt ∧ zf.toInt ≤ 19) (g_zh : 0 ≤ zh.toInt ∧ zh.toInt ≤ 6) (g_zr : 0 ≤ zr.toInt ∧ zr.toInt ≤ 258) (g_zc : 0 ≤ zc.toInt ∧ zc.toInt ≤ 300) (g_zy : 0 ≤ zy.toInt ∧ zy.toInt ≤ 65536) (g_za : 0 ≤ za.toInt ∧ za.toInt ≤ 5) (g_zb : 0 ≤ zb.toInt ∧ zb.toInt ≤ 5) (g_zs : 0 ≤ zs.toInt ∧ zs.toInt ≤ 2000000) (g_zq : -1 ≤ zq.toInt ∧ zq.toInt ≤ 2000000) (g_zn : 0 ≤ zn.toInt ∧ zn.toInt ≤ 2600) (g_zm : 0 ≤ zm.toInt ∧ zm.toInt ≤ 2600) (g_zk : 0 ≤ zk.toInt ∧ zk.toInt ≤ 300) : kMi l yX12_isToldChoice wsX12_isToldChoice ({ frames := 0, cells := 0, slots := 0, locals := 0 } : Room) [.ref oM, .int i] sz (dC, dI) vwCl [(cI, .int), (cS, .short)] [(oM, .inr (12, [.ref mT, .int zt, .ref mS, .ref mX, .int zp, .int zf, .ref mL, .ref mB, .ref mD, .ref m1, .ref m2, .int zh, .ref mR, .int zr, .ref x1, .ref x2, .ref x3, .int zc, .ref mH, .int zy, .int za, .int zb, .int zs, .int zq, .int zw, .int ze, .ref mY, .int zn, .ref mE, .int zm, .int zl, .ref mW, .int zk, .ref mO, .int zd, .ref y1, .ref y2, .ref y3, .ref y4, .ref mZ]))] (fun _ => True) 0 0 (fun (A : Nat → Prop) (r : Int32) (hh9 : Heap) => ∀ PZ9 : Prop, (kPD (dC, dI) vwCl A [(oM, .inr (12, [.ref mT, .int zt, .ref mS, .ref mX, .int zp, .int zf, .ref mL, .ref mB, .ref mD, .ref m1, .ref m2, .int zh, .ref mR, .int zr, .ref x1, .ref x2, .ref x3, .int zc, .ref mH, .int zy, .int za, .int zb, .int zs, .int zq, .int zw, .int ze, .ref mY, .int zn, .ref mE, .int zm, .int zl, .ref mW, .int zk, .ref mO, .int zd, .ref y1, .ref y2, .ref y3, .ref y4, .ref mZ]))] hh9 → (0 ≤ r.toInt ∧ r.toInt ≤ 1) → ((r.toInt = 1 ∧ 0 ≤ i.toInt ∧ i.toInt < zy.toInt ∧ i.toInt < 200) ∨ (r.toInt = 0 ∧ ¬ (0 ≤ i.toInt ∧ i.toInt < zy.toInt ∧ i.toInt < 200))) → PZ9) → PZ9) := by
  refine kMi_of (cc := cX12_isToldChoice) (maxL := 2) (ret := (some .boolean)) (lv := [(0, .ref oM), (1, .int i)]) (by decide +kernel) rfl rfl (Nat.le_of_ble_eq_true rfl) ?_
  intro p e s m below meth c A QQ ls hx hb hr hts hml hown hlocks hA hQQ hK hX hP hD hS hl
  have hown : s.vm.findClass RX12 = some m.cls := hown
  have hcf := k_cf hx hb hml hown hts
  have in_X12 : ∀ w ∈ wsX120, w ∈ wsX12_isToldChoice := fun _ h => List.mem_cons_of_mem _ (List.mem_append_right _ (h))
  replace g_zt := hid g_zt
  replace g_zp := hid g_zp
  replace g_zf := hid g_zf
  replace g_zh := hid g_zh
  replace g_zr := hid g_zr
  replace g_zc := hid g_zc
  replace g_za := hid g_za
  replace g_zb := hid g_zb
  replace g_zs := hid g_zs
  replace g_zq := hid g_zq
  replace g_zn := hid g_zn
  replace g_zm := hid g_zm
  replace g_zk := hid g_zk
  refine lv_iload_n hx hb dX12_isToldChoice_0 rfl (lv_at hl 1 rfl) ?_
  refine lv_if_lt (tgt := 23) hx hb dX12_isToldChoice_1 (by decide) (fun c_1 => ?_) (fun c_1 => ?_)
  · have tc_1 : i.toInt < 0 := v_lt c_1
    refine lv_iconst (v := 0) hx hb dX12_isToldChoice_23 (by decide) ?_
    exact kl_z (v := 0) hQQ hx hb hr hlocks hS dX12_isToldChoice_24 (rfl) (fun PZ9 kZ9 => kZ9 (⟨hP, hD⟩) (by decide) (by show (0 = 1 ∧ 0 ≤ i.toInt ∧ i.toInt < zy.toInt ∧ i.toInt < 200) ∨ (0 = 0 ∧ ¬ (0 ≤ i.toInt ∧ i.toInt < zy.toInt ∧ i.toInt < 200)); omega))
  · have tc_1 : 0 ≤ i.toInt := v_nlt c_1
    refine lv_iload_n hx hb dX12_isToldChoice_4 rfl (lv_at hl 1 rfl) ?_
    refine lv_aload_n hx hb dX12_isToldChoice_5 rfl (lv_at hl 0 rfl) ?_
    refine va_get (D := (dC, dI)) (ci := 12) (v := .int zy) (C := RX12) (T := TX12) (N := 40) hx hb hts in_X12 hown hK hP 0 rfl rfl 19 (Nat.le_of_ble_eq_true rfl) (hts (.fieldLink RX12 213 "TextMenderModel" "choiceMany" "I") (List.mem_of_getElem? (i := 1) rfl)) (fun _ h9 => h9) rfl dX12_isToldChoice_6 ?_
    refine lv_icmp_ge (tgt := 23) hx hb dX12_isToldChoice_9 (by decide) (fun c_2 => ?_) (fun c_2 => ?_)
    · have tc_2 : zy.toInt ≤ i.toInt := v_le c_2
      have rw2_0 := v_rng i
      refine lv_iconst (v := 0) hx hb dX12_isToldChoice_23 (by decide) ?_
      exact kl_z (v := 0) hQQ hx hb hr hlocks hS dX12_isToldChoice_24 (rfl) (fun PZ9 kZ9 => kZ9 (⟨hP, hD⟩) (by decide) (by show (0 = 1 ∧ 0 ≤ i.toInt ∧ i.toInt < zy.toInt ∧ i.toInt < 200) ∨ (0 = 0 ∧ ¬ (0 ≤ i.toInt ∧ i.toInt < zy.toInt ∧ i.toInt < 200)); omega))
    · have tc_2 : i.toInt < zy.toInt := v_nle c_2
      have rw2_0 := v_rng i
      refine lv_iload_n hx hb dX12_isToldChoice_12 rfl (lv_at hl 1 rfl) ?_
      refine lv_sipush (v := 200) hx hb dX12_isToldChoice_13 (by decide) ?_
      refine lv_icmp_ge (tgt := 23) hx hb dX12_isToldChoice_16 (by decide) (fun c_3 => ?_) (fun c_3 => ?_)
      · have tc_3 : 200 ≤ i.toInt := v_le c_3
        refine lv_iconst (v := 0) hx hb dX12_isToldChoice_23 (by decide) ?_
        exact kl_z (v := 0) hQQ hx hb hr hlocks hS dX12_isToldChoice_24 (rfl) (fun PZ9 kZ9 => kZ9 (⟨hP, hD⟩) (by decide) (by show (0 = 1 ∧ 0 ≤ i.toInt ∧ i.toInt < zy.toInt ∧ i.toInt < 200) ∨ (0 = 0 ∧ ¬ (0 ≤ i.toInt ∧ i.toInt < zy.toInt ∧ i.toInt < 200)); omega))
      · have tc_3 : i.toInt < 200 := v_nle c_3
        refine lv_iconst (v := 1) hx hb dX12_isToldChoice_19 (by decide) ?_
        refine lv_goto (tgt := 24) hx hb dX12_isToldChoice_20 (by decide) ?_
        exact kl_z (v := 1) hQQ hx hb hr hlocks hS dX12_isToldChoice_24 (rfl) (fun PZ9 kZ9 => kZ9 (⟨hP, hD⟩) (by decide) (by show (1 = 1 ∧ 0 ≤ i.toInt ∧ i.toInt < zy.toInt ∧ i.toInt < 200) ∨ (1 = 0 ∧ ¬ (0 ≤ i.toInt ∧ i.toInt < zy.toInt ∧ i.toInt < 200)); omega))

theorem ic_y {r zk a b : Int32} {L4 L5 f eW f' : Nat → Int32} {Bf : Int32 → Int32} {n c : Nat} {v1 v2 : Int} (h : F_ic r zk eW a b L4 L5 Bf n f v1 v2) (hv : VCH a b L4 L5 Bf n f v1 v2 c f') : ∃ c : Nat, zk.toInt = c ∧ VCH a b L4 L5 Bf n f v1 v2 c eW := h.elim (fun z => z.2) (fun z => absurd hv (z.2 _ _))

set_option maxHeartbeats 40000000 in
set_option maxRecDepth 100000 in
theorem f_X12_chosen (l : Launch) (dC : Nat → ClassId) (dI : Nat → Nat → Nat) (cI cS : ClassId) (sz : Nat) (oM : Nat) (mT : Nat) (mS : Nat) (mX : Nat) (mL : Nat) (mB : Nat) (mD : Nat) (m1 : Nat) (m2 : Nat) (mR : Nat) (x1 : Nat) (x2 : Nat) (x3 : Nat) (mH : Nat) (mY : Nat) (mE : Nat) (mW : Nat) (mO : Nat) (y1 : Nat) (y2 : Nat) (y3 : Nat) (y4 : Nat) (mZ : Nat) (zt : Int32) (zp : Int32) (zf : Int32) (zh : Int32) (zr : Int32) (zc : Int32) (zy : Int32) (za : Int32) (zb : Int32) (zs : Int32) (zq : Int32) (zw : Int32) (ze : Int32) (zn : Int32) (zm : Int32) (zl : Int32) (zk : Int32) (zd : Int32) (eY : Nat → Int32) (eB : Nat → Int32) (eL : Nat → Int32) (eE : Nat → Int32) (eW : Nat → Int32) (eH : Nat → Int32) (eS : Nat → Int32) (eX : Nat → Int32) (i : Int32) (g_zt : 0 ≤ zt.toInt ∧ zt.toInt ≤ 900) (g_zp : 0 ≤ zp.toInt ∧ zp.toInt ≤ 20) (g_zf : 0 ≤ zf.toInt ∧ zf.toInt ≤ 19) (g_zh : 0 ≤ zh.toInt ∧ zh.toInt ≤ 6) (g_zr : 0 ≤ zr.toInt ∧ zr.toInt ≤ 258) (g_zc : 0 ≤ zc.toInt ∧ zc.toInt ≤ 300) (g_zy : 0 ≤ zy.toInt ∧ zy.toInt ≤ 65536) (g_za : 0 ≤ za.toInt ∧ za.toInt ≤ 5) (g_zb : 0 ≤ zb.toInt ∧ zb.toInt ≤ 5) (g_zs : 0 ≤ zs.toInt ∧ zs.toInt ≤ 2000000) (g_zq : -1 ≤ zq.toInt ∧ zq.toInt ≤ 2000000) (g_zn : 0 ≤ zn.toInt ∧ zn.toInt ≤ 2600) (g_zm : 0 ≤ zm.toInt ∧ zm.toInt ≤ 2600) (g_zk : 0 ≤ zk.toInt ∧ zk.toInt ≤ 300) (g_eY : rg 0 255 eY) (g_eB : rg (-1) 255 eB) (g_eL : rg (-1) 65535 eL) (g_eE : rg 0 65535 eE) (g_eW : rg 0 65535 eW) (g_eS : rg 0 300 eS) (g_eX : rg 0 65535 eX) (hxl : ∀ j : Nat, (j : Int) < (eS 0).toInt → isLz (eX j)) (hlb : LBr eL eB) (hlz : LZ eL) (hfr : frsR zq zs zy za zb eH eL eX (fun c9 => Br c9 eB) (eS 0).toInt.toNat) (hzs : zs.toInt ≤ 1000000) : kMi l yX12_chosen wsX12_chosen ({ frames := 4, cells := 0, slots := 0, locals := 97 } : Room) [.ref oM, .int i] sz (dC, dI) vwCl [(cI, .int), (cS, .short)] [(oM, .inr (12, [.ref mT, .int zt, .ref mS, .ref mX, .int zp, .int zf, .ref mL, .ref mB, .ref mD, .ref m1, .ref m2, .int zh, .ref mR, .int zr, .ref x1, .ref x2, .ref x3, .int zc, .ref mH, .int zy, .int za, .int zb, .int zs, .int zq, .int zw, .int ze, .ref mY, .int zn, .ref mE, .int zm, .int zl, .ref mW, .int zk, .ref mO, .int zd, .ref y1, .ref y2, .ref y3, .ref y4, .ref mZ])), (mY, .inl (cI, 2600, .inl eY)), (mB, .inl (cS, 131072, .inl eB)), (mL, .inl (cI, 512, .inl eL)), (mE, .inl (cI, 2600, .inl eE)), (mW, .inl (cI, 300, .inl eW)), (mH, .inl (cI, 800, .inl eH)), (mS, .inl (cI, 21, .inl eS)), (mX, .inl (cI, 6300, .inl eX))] (fun _ => True) 0 0 (fun (A : Nat → Prop) (r : Int32) (hh9 : Heap) => ∀ PZ9 : Prop, (∀ (ze' : Int32) (zk' : Int32) (eW' : Nat → Int32) (zn' : Int32) (eY' : Nat → Int32) (zd' : Int32) (zm' : Int32) (zl' : Int32) (eE' : Nat → Int32) (zp' : Int32) (zf' : Int32) (zs' : Int32) (eS' : Nat → Int32) (eX' : Nat → Int32), kPD (dC, dI) vwCl A [(oM, .inr (12, [.ref mT, .int zt, .ref mS, .ref mX, .int zp', .int zf', .ref mL, .ref mB, .ref mD, .ref m1, .ref m2, .int zh, .ref mR, .int zr, .ref x1, .ref x2, .ref x3, .int zc, .ref mH, .int zy, .int za, .int zb, .int zs', .int zq, .int zw, .int ze', .ref mY, .int zn', .ref mE, .int zm', .int zl', .ref mW, .int zk', .ref mO, .int zd', .ref y1, .ref y2, .ref y3, .ref y4, .ref mZ])), (mY, .inl (cI, 2600, .inl eY')), (mB, .inl (cS, 131072, .inl eB)), (mL, .inl (cI, 512, .inl eL)), (mE, .inl (cI, 2600, .inl eE')), (mW, .inl (cI, 300, .inl eW')), (mH, .inl (cI, 800, .inl eH)), (mS, .inl (cI, 21, .inl eS')), (mX, .inl (cI, 6300, .inl eX'))] hh9 → (0 ≤ zk'.toInt ∧ zk'.toInt ≤ 300) → (rg 0 65535 eW') → (0 ≤ zn'.toInt ∧ zn'.toInt ≤ 2600) → (rg 0 255 eY') → (0 ≤ zm'.toInt ∧ zm'.toInt ≤ 2600) → (rg 0 65535 eE') → (0 ≤ zp'.toInt ∧ zp'.toInt ≤ 20) → (0 ≤ zf'.toInt ∧ zf'.toInt ≤ 19) → (0 ≤ zs'.toInt ∧ zs'.toInt ≤ 2000000) → (rg 0 300 eS') → (rg 0 65535 eX') → (0 ≤ r.toInt ∧ r.toInt ≤ 1) → (zs'.toInt ≤ zs.toInt + 1 ∧ zs.toInt ≤ zs'.toInt) → (F_st zs zs' eX eX' eS eS') → (OR (0) r zs zs' zp zp' zf zf' eS eS' eX eX' (csR zq zs zy za zb i eH eL eX (Br zb eB) (eS 0).toInt.toNat)) → PZ9) → PZ9) := by
  refine kMi_of (cc := cX12_chosen) (maxL := 2) (ret := (some .boolean)) (lv := [(0, .ref oM), (1, .int i)]) (by decide +kernel) rfl rfl (Nat.le_of_ble_eq_true rfl) ?_
  intro p e s m below meth c A QQ ls hx hb hr hts hml hown hlocks hA hQQ hK hX hP hD hS hl
  have hown : s.vm.findClass RX12 = some m.cls := hown
  have hcf := k_cf hx hb hml hown hts
  have in_X12 : ∀ w ∈ wsX120, w ∈ wsX12_chosen := fun _ h => List.mem_cons_of_mem _ (List.mem_append_left _ (List.mem_append_left _ (List.mem_append_left _ (List.mem_append_right _ (h)))))
  replace g_zt := hid g_zt
  replace g_zh := hid g_zh
  replace g_zr := hid g_zr
  replace g_zc := hid g_zc
  replace g_zn := hid g_zn
  replace g_zm := hid g_zm
  replace g_zk := hid g_zk
  have z0 : (0 : Int32).toInt = 0 := rfl
  have z1 : (1 : Int32).toInt = 1 := rfl
  have zm1 : (-1 : Int32).toInt = -1 := rfl
  have gS0 := g_eS 0
  refine lv_aload_n hx hb dX12_chosen_0 rfl (lv_at hl 0 rfl) ?_
  refine lv_iconst (v := 0) hx hb dX12_chosen_1 (by decide) ?_
  refine va_put (D := (dC, dI)) (ci := 12) (v := .int 0) (ty := .int) (C := RX12) (T := TX12) (N := 40) hx hb hts in_X12 tyX12 tyX12_ok nmX12 hown hK hP hD hS 0 rfl rfl 25 (Nat.le_of_ble_eq_true rfl) (hts (.fieldLink RX12 85 "TextMenderModel" "thrown" "I") (List.mem_of_getElem? (i := 1) rfl)) (fun _ h9 => h9) rfl (tyX12_ok 25 (Nat.le_of_ble_eq_true rfl)) rfl rfl (Nat.le_of_ble_eq_true rfl) dX12_chosen_2 (kW (wn := [(oM, .inr (12, [.ref mT, .int zt, .ref mS, .ref mX, .int zp, .int zf, .ref mL, .ref mB, .ref mD, .ref m1, .ref m2, .int zh, .ref mR, .int zr, .ref x1, .ref x2, .ref x3, .int zc, .ref mH, .int zy, .int za, .int zb, .int zs, .int zq, .int zw, .int 0, .ref mY, .int zn, .ref mE, .int zm, .int zl, .ref mW, .int zk, .ref mO, .int zd, .ref y1, .ref y2, .ref y3, .ref y4, .ref mZ])), (mY, .inl (cI, 2600, .inl eY)), (mB, .inl (cS, 131072, .inl eB)), (mL, .inl (cI, 512, .inl eL)), (mE, .inl (cI, 2600, .inl eE)), (mW, .inl (cI, 300, .inl eW)), (mH, .inl (cI, 800, .inl eH)), (mS, .inl (cI, 21, .inl eS)), (mX, .inl (cI, 6300, .inl eX))]) rfl (fun H locs hPn hDn hSn => ?_))
  clear hP hD hS
  have hP := hPn
  have hD := hDn
  have hS := hSn
  clear hPn hDn hSn
  refine lv_aload_n hx hb dX12_chosen_5 rfl (lv_at hl 0 rfl) ?_
  refine lv_iload_n hx hb dX12_chosen_6 rfl (lv_at hl 1 rfl) ?_
  refine kV_i (rest := []) (q0 := 0) (ci := 12) hcf (f_X12_isToldChoice l dC dI cI cS H.size oM mT mS mX mL mB mD m1 m2 mR x1 x2 x3 mH mY mE mW mO y1 y2 y3 y4 mZ zt zp zf zh zr zc zy za zb zs zq zw 0 zn zm zl zk zd i (g_zt) (g_zp) (g_zf) (g_zh) (g_zr) (g_zc) (g_zy) (g_za) (g_zb) (g_zs) (g_zq) (g_zn) (g_zm) (g_zk)) kc_X12_isToldChoice gX12_chosen_X12_isToldChoice rfl rfl rfl ⟨Nat.le_of_ble_eq_true rfl, Nat.le_of_ble_eq_true rfl⟩ kX_t hK hP hD hS hA (posT mk_5 0) (posF mk_5 0) (kC_of mk_5 rfl rfl) (by decide +kernel) rfl rfl rfl hl rfl (Nat.le_of_ble_eq_true rfl) dX12_chosen_7 ⟨Nat.le_of_ble_eq_true rfl, Nat.le_of_ble_eq_true rfl⟩ (fun r_1 H locs hB hJ hSn => ?_)
  refine hB _ (fun hPD9 hf1_0 hf1_1 => ?_)
  clear hB
  obtain ⟨hPn, hDn⟩ := kJi (m := mk_5) hJ rfl hPD9.1 hPD9.2 (wn := [(oM, .inr (12, [.ref mT, .int zt, .ref mS, .ref mX, .int zp, .int zf, .ref mL, .ref mB, .ref mD, .ref m1, .ref m2, .int zh, .ref mR, .int zr, .ref x1, .ref x2, .ref x3, .int zc, .ref mH, .int zy, .int za, .int zb, .int zs, .int zq, .int zw, .int 0, .ref mY, .int zn, .ref mE, .int zm, .int zl, .ref mW, .int zk, .ref mO, .int zd, .ref y1, .ref y2, .ref y3, .ref y4, .ref mZ])), (mY, .inl (cI, 2600, .inl eY)), (mB, .inl (cS, 131072, .inl eB)), (mL, .inl (cI, 512, .inl eL)), (mE, .inl (cI, 2600, .inl eE)), (mW, .inl (cI, 300, .inl eW)), (mH, .inl (cI, 800, .inl eH)), (mS, .inl (cI, 21, .inl eS)), (mX, .inl (cI, 6300, .inl eX))]) rfl
  clear hP hD hS hJ hPD9
  have hP := hPn
  have hD := hDn
  have hS := hSn
  clear hPn hDn hSn
  refine lv_if_eq (tgt := 24) hx hb dX12_chosen_10 (by decide) (fun c_2 => ?_) (fun c_2 => ?_)
  · have tc_2 : r_1.toInt = 0 := v_eq c_2
    refine lv_iconst (v := 0) hx hb dX12_chosen_24 (by decide) ?_
    exact kl_z (v := 0) hQQ hx hb hr hlocks hS dX12_chosen_25 (rfl) (fun PZ9 kZ9 => kZ9 0 zk eW zn eY zd zm zl eE zp zf zs eS eX (⟨hP, hD⟩) (g_zk) (g_eW) (g_zn) (g_eY) (g_zm) (g_eE) (g_zp) (g_zf) (g_zs) (g_eS) (g_eX) (by decide) (by show zs.toInt ≤ zs.toInt + 1 ∧ zs.toInt ≤ zs.toInt; omega) (by first | exact Or.inl (by omega) | exact Or.inr ⟨rfl, rfl, rfl⟩) (OR_n rfl (fun c fm v h => absurd h.2.1 (by omega))))
  · have tc_2 : ¬ r_1.toInt = 0 := v_ne c_2
    refine lv_aload_n hx hb dX12_chosen_13 rfl (lv_at hl 0 rfl) ?_
    refine va_get (D := (dC, dI)) (ci := 12) (v := .int zq) (C := RX12) (T := TX12) (N := 40) hx hb hts in_X12 hown hK hP 0 rfl rfl 23 (Nat.le_of_ble_eq_true rfl) (hts (.fieldLink RX12 51 "TextMenderModel" "choiceState" "I") (List.mem_of_getElem? (i := 2) rfl)) (fun _ h9 => h9) rfl dX12_chosen_14 ?_
    refine lv_aload_n hx hb dX12_chosen_17 rfl (lv_at hl 0 rfl) ?_
    refine va_get (D := (dC, dI)) (ci := 12) (v := .int zs) (C := RX12) (T := TX12) (N := 40) hx hb hts in_X12 hown hK hP 0 rfl rfl 22 (Nat.le_of_ble_eq_true rfl) (hts (.fieldLink RX12 148 "TextMenderModel" "state" "I") (List.mem_of_getElem? (i := 3) rfl)) (fun _ h9 => h9) rfl dX12_chosen_18 ?_
    refine lv_icmp_eq (tgt := 26) hx hb dX12_chosen_21 (by decide) (fun c_3 => ?_) (fun c_3 => ?_)
    · have tc_3 : zq.toInt = zs.toInt := v_eq c_3
      have ci9 := v_clamp (x := i) (by omega)
      obtain ⟨⟨hby1, hby2, hby3⟩, hal1, hal2, hex9⟩ := (hfr (by omega)).2.2 i.toNatClampNeg (by omega) (by omega)
      have hfm9 := (hfr (by omega)).1
      have hf10 := (hfr (by omega)).2.1
      refine lv_aload_n hx hb dX12_chosen_26 rfl (lv_at hl 0 rfl) ?_
      refine lv_aload_n hx hb dX12_chosen_27 rfl (lv_at hl 0 rfl) ?_
      refine va_get (D := (dC, dI)) (ci := 12) (v := .int za) (C := RX12) (T := TX12) (N := 40) hx hb hts in_X12 hown hK hP 0 rfl rfl 20 (Nat.le_of_ble_eq_true rfl) (hts (.fieldLink RX12 216 "TextMenderModel" "choiceA" "I") (List.mem_of_getElem? (i := 4) rfl)) (fun _ h9 => h9) rfl dX12_chosen_28 ?_
      refine lv_aload_n hx hb dX12_chosen_31 rfl (lv_at hl 0 rfl) ?_
      refine va_get (D := (dC, dI)) (ci := 12) (v := .int zb) (C := RX12) (T := TX12) (N := 40) hx hb hts in_X12 hown hK hP 0 rfl rfl 21 (Nat.le_of_ble_eq_true rfl) (hts (.fieldLink RX12 219 "TextMenderModel" "choiceB" "I") (List.mem_of_getElem? (i := 5) rfl)) (fun _ h9 => h9) rfl dX12_chosen_32 ?_
      refine lv_aload_n hx hb dX12_chosen_35 rfl (lv_at hl 0 rfl) ?_
      refine va_get (D := (dC, dI)) (ci := 12) (v := .ref mH) (C := RX12) (T := TX12) (N := 40) hx hb hts in_X12 hown hK hP 0 rfl rfl 18 (Nat.le_of_ble_eq_true rfl) (hts (.fieldLink RX12 48 "TextMenderModel" "choices" "[I") (List.mem_of_getElem? (i := 6) rfl)) (fun _ h9 => h9) rfl dX12_chosen_36 ?_
      refine lv_iconst (v := 4) hx hb dX12_chosen_39 (by decide) ?_
      refine lv_iload_n hx hb dX12_chosen_40 rfl (lv_at hl 1 rfl) ?_
      refine lv_imul hx hb dX12_chosen_41 ?_
      refine lv_topi (fun x_4 ex_4 => ?_)
      have tx_4 : x_4.toInt = 4 * i.toInt := v_mul ex_4 (by show -2147483648 ≤ 4 * i.toInt; omega) (by show 4 * i.toInt < 2147483648; omega)
      refine va_iald hx hb hK hP 6 0 rfl rfl (v_in (by omega)) dX12_chosen_42 ?_
      refine lv_topi (fun x_5 ex_5 => ?_)
      refine lv_aload_n hx hb dX12_chosen_43 rfl (lv_at hl 0 rfl) ?_
      refine va_get (D := (dC, dI)) (ci := 12) (v := .ref mH) (C := RX12) (T := TX12) (N := 40) hx hb hts in_X12 hown hK hP 0 rfl rfl 18 (Nat.le_of_ble_eq_true rfl) (hts (.fieldLink RX12 48 "TextMenderModel" "choices" "[I") (List.mem_of_getElem? (i := 6) rfl)) (fun _ h9 => h9) rfl dX12_chosen_44 ?_
      refine lv_iconst (v := 4) hx hb dX12_chosen_47 (by decide) ?_
      refine lv_iload_n hx hb dX12_chosen_48 rfl (lv_at hl 1 rfl) ?_
      refine lv_imul hx hb dX12_chosen_49 ?_
      refine lv_topi (fun x_6 ex_6 => ?_)
      have tx_6 : x_6.toInt = 4 * i.toInt := v_mul ex_6 (by show -2147483648 ≤ 4 * i.toInt; omega) (by show 4 * i.toInt < 2147483648; omega)
      refine lv_iconst (v := 1) hx hb dX12_chosen_50 (by decide) ?_
      refine lv_iadd hx hb dX12_chosen_51 ?_
      refine lv_topi (fun x_7 ex_7 => ?_)
      have tx_7 : x_7.toInt = x_6.toInt + 1 := v_add ex_7 (by show -2147483648 ≤ x_6.toInt + 1; omega) (by show x_6.toInt + 1 < 2147483648; omega)
      refine va_iald hx hb hK hP 6 0 rfl rfl (v_in (by omega)) dX12_chosen_52 ?_
      refine lv_topi (fun x_8 ex_8 => ?_)
      have hx4 : x_5 = eH (4 * i.toNatClampNeg) := by rw [ex_5, ix_eq (x := x_4) (N := 4 * i.toNatClampNeg) (by omega)]
      have hx5 : x_8 = eH (4 * i.toNatClampNeg + 1) := by rw [ex_8, ix_eq (x := x_7) (N := 4 * i.toNatClampNeg + 1) (by omega)]
      have hx6 : 0 ≤ x_5.toInt ∧ x_5.toInt ≤ 255 ∧ -1 ≤ x_8.toInt ∧ x_8.toInt ≤ 255 := by rw [hx4, hx5]; exact ⟨hby1.1, hby1.2, hby2.1, hby2.2⟩
      refine kV_i (rest := []) (q0 := 0) (ci := 12) hcf (f_X12_isChoice l dC dI cI cS H.size oM mT mS mX mL mB mD m1 m2 mR x1 x2 x3 mH mY mE mW mO y1 y2 y3 y4 mZ zt zp zf zh zr zc zy za zb zs zq zw 0 zn zm zl zk zd eY eB eL eE eW eS eX za zb x_5 x_8 (g_zt) (g_zp) (g_zf) (g_zh) (g_zr) (g_zc) (g_zy) (g_za) (g_zb) (g_zs) (g_zq) (g_zn) (g_zm) (g_zk) (g_eY) (g_eB) (g_eL) (g_eE) (g_eW) (g_eS) (g_eX) (g_za) (g_zb) (by omega) (by omega) (by rw [hx5]; exact hby3) (by rw [hx4]; exact hal1) (by rw [hx5]; exact hal2) (by omega) (by omega) (hxl) (hlb) (hlz)) kc_X12_isChoice gX12_chosen_X12_isChoice rfl rfl rfl ⟨Nat.le_of_ble_eq_true rfl, Nat.le_of_ble_eq_true rfl⟩ kX_t hK hP hD hS hA (posT mk_191 0) (posF mk_191 0) (kC_of mk_191 rfl rfl) (by decide +kernel) rfl rfl rfl hl rfl (Nat.le_of_ble_eq_true rfl) dX12_chosen_53 ⟨Nat.le_of_ble_eq_true rfl, Nat.le_of_ble_eq_true rfl⟩ (fun r_9 H locs hB hJ hSn => ?_)
      refine hB _ (fun zn_9 eY_9 zd_9 zm_9 zl_9 eE_9 zk_9 eW_9 hPD9 hf9_0 hf9_1 hf9_2 hf9_3 hf9_4 hf9_5 hf9_6 hf9_7 => ?_)
      clear hB
      obtain ⟨hPn, hDn⟩ := kJi (m := mk_191) hJ rfl hPD9.1 hPD9.2 (wn := [(oM, .inr (12, [.ref mT, .int zt, .ref mS, .ref mX, .int zp, .int zf, .ref mL, .ref mB, .ref mD, .ref m1, .ref m2, .int zh, .ref mR, .int zr, .ref x1, .ref x2, .ref x3, .int zc, .ref mH, .int zy, .int za, .int zb, .int zs, .int zq, .int zw, .int 0, .ref mY, .int zn_9, .ref mE, .int zm_9, .int zl_9, .ref mW, .int zk_9, .ref mO, .int zd_9, .ref y1, .ref y2, .ref y3, .ref y4, .ref mZ])), (mY, .inl (cI, 2600, .inl eY_9)), (mB, .inl (cS, 131072, .inl eB)), (mL, .inl (cI, 512, .inl eL)), (mE, .inl (cI, 2600, .inl eE_9)), (mW, .inl (cI, 300, .inl eW_9)), (mH, .inl (cI, 800, .inl eH)), (mS, .inl (cI, 21, .inl eS)), (mX, .inl (cI, 6300, .inl eX))]) rfl
      clear hP hD hS hJ hPD9
      have hP := hPn
      have hD := hDn
      have hS := hSn
      clear hPn hDn hSn
      refine lv_pop hx hb dX12_chosen_56 rfl ?_
      refine lv_aload_n hx hb dX12_chosen_57 rfl (lv_at hl 0 rfl) ?_
      refine lv_aload_n hx hb dX12_chosen_58 rfl (lv_at hl 0 rfl) ?_
      refine va_get (D := (dC, dI)) (ci := 12) (v := .ref mW) (C := RX12) (T := TX12) (N := 40) hx hb hts in_X12 hown hK hP 0 rfl rfl 31 (Nat.le_of_ble_eq_true rfl) (hts (.fieldLink RX12 64 "TextMenderModel" "work" "[I") (List.mem_of_getElem? (i := 7) rfl)) (fun _ h9 => h9) rfl dX12_chosen_59 ?_
      refine lv_aload_n hx hb dX12_chosen_62 rfl (lv_at hl 0 rfl) ?_
      refine va_get (D := (dC, dI)) (ci := 12) (v := .int zk_9) (C := RX12) (T := TX12) (N := 40) hx hb hts in_X12 hown hK hP 0 rfl rfl 32 (Nat.le_of_ble_eq_true rfl) (hts (.fieldLink RX12 135 "TextMenderModel" "workMany" "I") (List.mem_of_getElem? (i := 8) rfl)) (fun _ h9 => h9) rfl dX12_chosen_63 ?_
      refine kV_v (rest := []) (q0 := 0) (ci := 12) hcf (f_X12_bec l dC dI cI cS H.size oM mW mT mS mX mL mB mD m1 m2 mR x1 x2 x3 mH mY mE mW mO y1 y2 y3 y4 mZ 300 zt zp zf zh zr zc zy za zb zs zq zw 0 zn_9 zm_9 zl_9 zk_9 zd_9 eS eX eW_9 zk_9 (g_zt) (g_zp) (g_zf) (g_zh) (g_zr) (g_zc) (g_zy) (g_za) (g_zb) (g_zs) (g_zq) (hf9_0) (hf9_2) (hf9_4) (g_eS) (g_eX) (hf9_4) (by omega) (by omega) (prg_of hf9_5) (by omega)) kc_X12_become gX12_chosen_X12_become rfl rfl rfl ⟨Nat.le_of_ble_eq_true rfl, Nat.le_of_ble_eq_true rfl⟩ kX_t hK hP hD hS hA ([0, 2, 3, 1].filterMap (fun j => (posT mk_167 0)[j]?)) (posF mk_167 0) (kCp (ws := [(oM, .inr (12, [.ref mT, .int zt, .ref mS, .ref mX, .int zp, .int zf, .ref mL, .ref mB, .ref mD, .ref m1, .ref m2, .int zh, .ref mR, .int zr, .ref x1, .ref x2, .ref x3, .int zc, .ref mH, .int zy, .int za, .int zb, .int zs, .int zq, .int zw, .int 0, .ref mY, .int zn_9, .ref mE, .int zm_9, .int zl_9, .ref mW, .int zk_9, .ref mO, .int zd_9, .ref y1, .ref y2, .ref y3, .ref y4, .ref mZ])), (mW, .inl (cI, 300, .inl eW_9)), (mS, .inl (cI, 21, .inl eS)), (mX, .inl (cI, 6300, .inl eX))]) (kC_of mk_167 rfl rfl) rfl) (by decide +kernel) rfl rfl rfl hl rfl (Nat.le_of_ble_eq_true rfl) dX12_chosen_66 ⟨Nat.le_of_ble_eq_true rfl, Nat.le_of_ble_eq_true rfl⟩ (fun H locs hB hJ hSn => ?_)
      refine hB _ (fun zp_10 zf_10 zs_10 eS_10 eX_10 hPD9 hf10_0 hf10_1 hf10_2 hf10_3 hf10_4 hf10_5 hf10_6 => ?_)
      clear hB
      obtain ⟨hPn, hDn⟩ := kJm (m := mk_167) hJ rfl hPD9.1 hPD9.2 [0, 3, 1, 2] (by decide +kernel) (ws := [(oM, .inr (12, [.ref mT, .int zt, .ref mS, .ref mX, .int zp_10, .int zf_10, .ref mL, .ref mB, .ref mD, .ref m1, .ref m2, .int zh, .ref mR, .int zr, .ref x1, .ref x2, .ref x3, .int zc, .ref mH, .int zy, .int za, .int zb, .int zs_10, .int zq, .int zw, .int 0, .ref mY, .int zn_9, .ref mE, .int zm_9, .int zl_9, .ref mW, .int zk_9, .ref mO, .int zd_9, .ref y1, .ref y2, .ref y3, .ref y4, .ref mZ])), (mW, .inl (cI, 300, .inl eW_9)), (mS, .inl (cI, 21, .inl eS_10)), (mX, .inl (cI, 6300, .inl eX_10))]) rfl (wn := [(oM, .inr (12, [.ref mT, .int zt, .ref mS, .ref mX, .int zp_10, .int zf_10, .ref mL, .ref mB, .ref mD, .ref m1, .ref m2, .int zh, .ref mR, .int zr, .ref x1, .ref x2, .ref x3, .int zc, .ref mH, .int zy, .int za, .int zb, .int zs_10, .int zq, .int zw, .int 0, .ref mY, .int zn_9, .ref mE, .int zm_9, .int zl_9, .ref mW, .int zk_9, .ref mO, .int zd_9, .ref y1, .ref y2, .ref y3, .ref y4, .ref mZ])), (mY, .inl (cI, 2600, .inl eY_9)), (mB, .inl (cS, 131072, .inl eB)), (mL, .inl (cI, 512, .inl eL)), (mE, .inl (cI, 2600, .inl eE_9)), (mW, .inl (cI, 300, .inl eW_9)), (mH, .inl (cI, 800, .inl eH)), (mS, .inl (cI, 21, .inl eS_10)), (mX, .inl (cI, 6300, .inl eX_10))]) rfl
      clear hP hD hS hJ hPD9
      have hP := hPn
      have hD := hDn
      have hS := hSn
      clear hPn hDn hSn
      refine lv_iconst (v := 1) hx hb dX12_chosen_69 (by decide) ?_
      exact kl_z (v := 1) hQQ hx hb hr hlocks hS dX12_chosen_70 (rfl) (fun PZ9 kZ9 => kZ9 0 zk_9 eW_9 zn_9 eY_9 zd_9 zm_9 zl_9 eE_9 zp_10 zf_10 zs_10 eS_10 eX_10 (⟨hP, hD⟩) (hf9_4) (hf9_5) (hf9_0) (hf9_1) (hf9_2) (hf9_3) (hf10_0) (hf10_1) (hf10_2) (hf10_3) (hf10_4) (by decide) (by show zs_10.toInt ≤ zs.toInt + 1 ∧ zs.toInt ≤ zs_10.toInt; omega) (by first | exact Or.inl (by omega) | exact Or.inr ⟨rfl, rfl, rfl⟩) (hex9.elim (fun c9 h8 => h8.elim (fun f9 h9 => (ic_y (by have q9 := hf9_7; rw [hx4, hx5] at q9; exact q9) h9).elim (fun c7 h7 => OR_y ⟨c7, h7.1, rfl, by omega, h7.2⟩ hf10_6 (by omega))))))
    · have tc_3 : ¬ zq.toInt = zs.toInt := v_ne c_3
      refine lv_iconst (v := 0) hx hb dX12_chosen_24 (by decide) ?_
      exact kl_z (v := 0) hQQ hx hb hr hlocks hS dX12_chosen_25 (rfl) (fun PZ9 kZ9 => kZ9 0 zk eW zn eY zd zm zl eE zp zf zs eS eX (⟨hP, hD⟩) (g_zk) (g_eW) (g_zn) (g_eY) (g_zm) (g_eE) (g_zp) (g_zf) (g_zs) (g_eS) (g_eX) (by decide) (by show zs.toInt ≤ zs.toInt + 1 ∧ zs.toInt ≤ zs.toInt; omega) (by first | exact Or.inl (by omega) | exact Or.inr ⟨rfl, rfl, rfl⟩) (OR_n rfl (fun c fm v h => absurd h.2.1 (by omega))))

end

/-! 5u.a.rows -/
section
set_option maxRecDepth 100000 in
theorem dA371_cX11_text : kDec cX11_text [(0, .aload_n 0, 1), (1, .iconst (-1), 1), (2, .putfield 90, 3), (5, .aload_n 0, 1), (6, .getfield 30, 3), (9, .invokevirtual 94, 3), (12, .sipush 300, 3), (15, .if_icmp .gt 14, 3), (29, .iconst 0, 1), (30, .istore_n 1, 1), (31, .iload_n 1, 1), (32, .ifCond .eq 15, 3), (47, .aload_n 0, 1), (48, .getfield 30, 3), (51, .iconst 0, 1), (52, .invokevirtual 102, 3), (55, .iload_n 1, 1), (56, .ifCond .eq 14, 3), (70, .iconst (-1), 1), (71, .ireturn, 1), (18, .aload_n 0, 1), (19, .invokevirtual 105, 3), (22, .ifCond .eq 7, 3), (25, .iconst 1, 1)] = true := by decide +kernel
theorem dX11_text_0 : decode cX11_text 0 = .ok (.aload_n 0, 1) := kDec_at dA371_cX11_text 0 rfl
theorem dX11_text_1 : decode cX11_text 1 = .ok (.iconst (-1), 1) := kDec_at dA371_cX11_text 1 rfl
theorem dX11_text_2 : decode cX11_text 2 = .ok (.putfield 90, 3) := kDec_at dA371_cX11_text 2 rfl
theorem dX11_text_5 : decode cX11_text 5 = .ok (.aload_n 0, 1) := kDec_at dA371_cX11_text 3 rfl
theorem dX11_text_6 : decode cX11_text 6 = .ok (.getfield 30, 3) := kDec_at dA371_cX11_text 4 rfl
theorem dX11_text_9 : decode cX11_text 9 = .ok (.invokevirtual 94, 3) := kDec_at dA371_cX11_text 5 rfl
theorem dX11_text_12 : decode cX11_text 12 = .ok (.sipush 300, 3) := kDec_at dA371_cX11_text 6 rfl
theorem dX11_text_15 : decode cX11_text 15 = .ok (.if_icmp .gt 14, 3) := kDec_at dA371_cX11_text 7 rfl
theorem dX11_text_29 : decode cX11_text 29 = .ok (.iconst 0, 1) := kDec_at dA371_cX11_text 8 rfl
theorem dX11_text_30 : decode cX11_text 30 = .ok (.istore_n 1, 1) := kDec_at dA371_cX11_text 9 rfl
theorem dX11_text_31 : decode cX11_text 31 = .ok (.iload_n 1, 1) := kDec_at dA371_cX11_text 10 rfl
theorem dX11_text_32 : decode cX11_text 32 = .ok (.ifCond .eq 15, 3) := kDec_at dA371_cX11_text 11 rfl
theorem dX11_text_47 : decode cX11_text 47 = .ok (.aload_n 0, 1) := kDec_at dA371_cX11_text 12 rfl
theorem dX11_text_48 : decode cX11_text 48 = .ok (.getfield 30, 3) := kDec_at dA371_cX11_text 13 rfl
theorem dX11_text_51 : decode cX11_text 51 = .ok (.iconst 0, 1) := kDec_at dA371_cX11_text 14 rfl
theorem dX11_text_52 : decode cX11_text 52 = .ok (.invokevirtual 102, 3) := kDec_at dA371_cX11_text 15 rfl
theorem dX11_text_55 : decode cX11_text 55 = .ok (.iload_n 1, 1) := kDec_at dA371_cX11_text 16 rfl
theorem dX11_text_56 : decode cX11_text 56 = .ok (.ifCond .eq 14, 3) := kDec_at dA371_cX11_text 17 rfl
theorem dX11_text_70 : decode cX11_text 70 = .ok (.iconst (-1), 1) := kDec_at dA371_cX11_text 18 rfl
theorem dX11_text_71 : decode cX11_text 71 = .ok (.ireturn, 1) := kDec_at dA371_cX11_text 19 rfl
theorem dX11_text_18 : decode cX11_text 18 = .ok (.aload_n 0, 1) := kDec_at dA371_cX11_text 20 rfl
theorem dX11_text_19 : decode cX11_text 19 = .ok (.invokevirtual 105, 3) := kDec_at dA371_cX11_text 21 rfl
theorem dX11_text_22 : decode cX11_text 22 = .ok (.ifCond .eq 7, 3) := kDec_at dA371_cX11_text 22 rfl
theorem dX11_text_25 : decode cX11_text 25 = .ok (.iconst 1, 1) := kDec_at dA371_cX11_text 23 rfl
set_option maxRecDepth 20000 in
theorem ggX11_text_X5_length : GoodIn wsX11_text wsX5_length := goodIn_sub (fun _ h => List.mem_cons_of_mem _ (List.mem_append_left _ (List.mem_append_left _ (List.mem_append_left _ (List.mem_append_left _ (List.mem_append_right _ (h))))))) gX5_length_all
set_option maxRecDepth 20000 in
theorem gX11_text_X5_length : GoodIn wsX11_text (wsV RX11 94 RX5 yX5_length wsX5_length) := goodIn_app (goodIn_r _ [4, 5, 6, 7] rfl (by decide +kernel)) ggX11_text_X5_length
set_option maxRecDepth 20000 in
theorem ggX11_text_X5_cut : GoodIn wsX11_text wsX5_cut := goodIn_sub (fun _ h => List.mem_cons_of_mem _ (List.mem_append_left _ (List.mem_append_right _ (h)))) gX5_cut_all
set_option maxRecDepth 20000 in
theorem gX11_text_X5_cut : GoodIn wsX11_text (wsV RX11 102 RX5 yX5_cut wsX5_cut) := goodIn_app (goodIn_r _ [15, 16, 17, 7] rfl (by decide +kernel)) ggX11_text_X5_cut
set_option maxRecDepth 20000 in
theorem gX11_tapeHoldsLetters_all : wsX11_tapeHoldsLetters.all goodWord = true := by
  unfold wsX11_tapeHoldsLetters
  exact good_c (by decide +kernel) (good_a (good_a (good_a (good_a (good_a ((by decide +kernel)) gX11_clsall) gX5_clsall) gX5_length_all) gX5_get_all) gX11_isLetter_all)
set_option maxRecDepth 20000 in
theorem ggX11_text_X11_tapeHoldsLetters : GoodIn wsX11_text wsX11_tapeHoldsLetters := goodIn_sub (fun _ h => List.mem_cons_of_mem _ (List.mem_append_left _ (List.mem_append_left _ (List.mem_append_left _ (List.mem_append_right _ (h)))))) gX11_tapeHoldsLetters_all
set_option maxRecDepth 20000 in
theorem gX11_text_X11_tapeHoldsLetters : GoodIn wsX11_text (wsV RX11 105 RX11 yX11_tapeHoldsLetters wsX11_tapeHoldsLetters) := goodIn_app (goodIn_r _ [8, 9, 10, 11] rfl (by decide +kernel)) ggX11_text_X11_tapeHoldsLetters
set_option maxRecDepth 100000 in
theorem dA372_cX11_text : kDec cX11_text [(26, .goto 4, 3), (35, .aload_n 0, 1), (36, .getfield 37, 3), (39, .aload_n 0, 1), (40, .getfield 30, 3), (43, .invokevirtual 109, 3), (46, .pop, 1), (59, .aload_n 0, 1), (60, .aload_n 0, 1), (61, .getfield 37, 3), (64, .invokevirtual 113, 3), (67, .goto 4, 3)] = true := by decide +kernel
theorem dX11_text_26 : decode cX11_text 26 = .ok (.goto 4, 3) := kDec_at dA372_cX11_text 0 rfl
theorem dX11_text_35 : decode cX11_text 35 = .ok (.aload_n 0, 1) := kDec_at dA372_cX11_text 1 rfl
theorem dX11_text_36 : decode cX11_text 36 = .ok (.getfield 37, 3) := kDec_at dA372_cX11_text 2 rfl
theorem dX11_text_39 : decode cX11_text 39 = .ok (.aload_n 0, 1) := kDec_at dA372_cX11_text 3 rfl
theorem dX11_text_40 : decode cX11_text 40 = .ok (.getfield 30, 3) := kDec_at dA372_cX11_text 4 rfl
theorem dX11_text_43 : decode cX11_text 43 = .ok (.invokevirtual 109, 3) := kDec_at dA372_cX11_text 5 rfl
theorem dX11_text_46 : decode cX11_text 46 = .ok (.pop, 1) := kDec_at dA372_cX11_text 6 rfl
theorem dX11_text_59 : decode cX11_text 59 = .ok (.aload_n 0, 1) := kDec_at dA372_cX11_text 7 rfl
theorem dX11_text_60 : decode cX11_text 60 = .ok (.aload_n 0, 1) := kDec_at dA372_cX11_text 8 rfl
theorem dX11_text_61 : decode cX11_text 61 = .ok (.getfield 37, 3) := kDec_at dA372_cX11_text 9 rfl
theorem dX11_text_64 : decode cX11_text 64 = .ok (.invokevirtual 113, 3) := kDec_at dA372_cX11_text 10 rfl
theorem dX11_text_67 : decode cX11_text 67 = .ok (.goto 4, 3) := kDec_at dA372_cX11_text 11 rfl
set_option maxRecDepth 20000 in
theorem ggX11_text_X5_takeAll : GoodIn wsX11_text wsX5_takeAll := goodIn_sub (fun _ h => List.mem_cons_of_mem _ (List.mem_append_left _ (List.mem_append_left _ (List.mem_append_right _ (h))))) gX5_takeAll_all
set_option maxRecDepth 20000 in
theorem gX11_text_X5_takeAll : GoodIn wsX11_text (wsV RX11 109 RX5 yX5_takeAll wsX5_takeAll) := goodIn_app (goodIn_r _ [12, 13, 14, 7] rfl (by decide +kernel)) ggX11_text_X5_takeAll
set_option maxRecDepth 20000 in
theorem ggX11_text_X11_become : GoodIn wsX11_text wsX11_become := goodIn_sub (fun _ h => List.mem_cons_of_mem _ (List.mem_append_right _ (h))) gX11_become_all
set_option maxRecDepth 20000 in
theorem gX11_text_X11_become : GoodIn wsX11_text (wsV RX11 113 RX11 yX11_become wsX11_become) := goodIn_app (goodIn_r _ [18, 19, 20, 11] rfl (by decide +kernel)) ggX11_text_X11_become
set_option maxRecDepth 100000 in
theorem dA373_cX12_text : kDec cX12_text [(0, .aload_n 0, 1), (1, .iconst 0, 1), (2, .putfield 85, 3), (5, .aload_n 0, 1), (6, .iconst (-1), 1), (7, .putfield 55, 3), (10, .aload_n 0, 1), (11, .getfield 151, 3), (14, .istore_n 1, 1), (15, .aload_n 0, 1), (16, .iconst 0, 1), (17, .putfield 151, 3), (20, .iload_n 1, 1), (21, .sipush 300, 3), (24, .if_icmp .le 5, 3), (29, .iconst 0, 1), (30, .istore_n 2, 1), (31, .iload_n 2, 1), (32, .iload_n 1, 1), (33, .if_icmp .ge 28, 3), (61, .aload_n 0, 1), (62, .aload_n 0, 1), (63, .getfield 9, 3), (66, .iload_n 1, 1)] = true := by decide +kernel
theorem dX12_text_0 : decode cX12_text 0 = .ok (.aload_n 0, 1) := kDec_at dA373_cX12_text 0 rfl
theorem dX12_text_1 : decode cX12_text 1 = .ok (.iconst 0, 1) := kDec_at dA373_cX12_text 1 rfl
theorem dX12_text_2 : decode cX12_text 2 = .ok (.putfield 85, 3) := kDec_at dA373_cX12_text 2 rfl
theorem dX12_text_5 : decode cX12_text 5 = .ok (.aload_n 0, 1) := kDec_at dA373_cX12_text 3 rfl
theorem dX12_text_6 : decode cX12_text 6 = .ok (.iconst (-1), 1) := kDec_at dA373_cX12_text 4 rfl
theorem dX12_text_7 : decode cX12_text 7 = .ok (.putfield 55, 3) := kDec_at dA373_cX12_text 5 rfl
theorem dX12_text_10 : decode cX12_text 10 = .ok (.aload_n 0, 1) := kDec_at dA373_cX12_text 6 rfl
theorem dX12_text_11 : decode cX12_text 11 = .ok (.getfield 151, 3) := kDec_at dA373_cX12_text 7 rfl
theorem dX12_text_14 : decode cX12_text 14 = .ok (.istore_n 1, 1) := kDec_at dA373_cX12_text 8 rfl
theorem dX12_text_15 : decode cX12_text 15 = .ok (.aload_n 0, 1) := kDec_at dA373_cX12_text 9 rfl
theorem dX12_text_16 : decode cX12_text 16 = .ok (.iconst 0, 1) := kDec_at dA373_cX12_text 10 rfl
theorem dX12_text_17 : decode cX12_text 17 = .ok (.putfield 151, 3) := kDec_at dA373_cX12_text 11 rfl
theorem dX12_text_20 : decode cX12_text 20 = .ok (.iload_n 1, 1) := kDec_at dA373_cX12_text 12 rfl
theorem dX12_text_21 : decode cX12_text 21 = .ok (.sipush 300, 3) := kDec_at dA373_cX12_text 13 rfl
theorem dX12_text_24 : decode cX12_text 24 = .ok (.if_icmp .le 5, 3) := kDec_at dA373_cX12_text 14 rfl
theorem dX12_text_29 : decode cX12_text 29 = .ok (.iconst 0, 1) := kDec_at dA373_cX12_text 15 rfl
theorem dX12_text_30 : decode cX12_text 30 = .ok (.istore_n 2, 1) := kDec_at dA373_cX12_text 16 rfl
theorem dX12_text_31 : decode cX12_text 31 = .ok (.iload_n 2, 1) := kDec_at dA373_cX12_text 17 rfl
theorem dX12_text_32 : decode cX12_text 32 = .ok (.iload_n 1, 1) := kDec_at dA373_cX12_text 18 rfl
theorem dX12_text_33 : decode cX12_text 33 = .ok (.if_icmp .ge 28, 3) := kDec_at dA373_cX12_text 19 rfl
theorem dX12_text_61 : decode cX12_text 61 = .ok (.aload_n 0, 1) := kDec_at dA373_cX12_text 20 rfl
theorem dX12_text_62 : decode cX12_text 62 = .ok (.aload_n 0, 1) := kDec_at dA373_cX12_text 21 rfl
theorem dX12_text_63 : decode cX12_text 63 = .ok (.getfield 9, 3) := kDec_at dA373_cX12_text 22 rfl
theorem dX12_text_66 : decode cX12_text 66 = .ok (.iload_n 1, 1) := kDec_at dA373_cX12_text 23 rfl
set_option maxRecDepth 20000 in
theorem ggX12_text_X12_become : GoodIn wsX12_text wsX12_become := goodIn_sub (fun _ h => List.mem_cons_of_mem _ (List.mem_append_right _ (h))) gX12_become_all
set_option maxRecDepth 20000 in
theorem gX12_text_X12_become : GoodIn wsX12_text (wsV RX12 154 RX12 yX12_become wsX12_become) := goodIn_app (goodIn_r _ [8, 9, 10, 7] rfl (by decide +kernel)) ggX12_text_X12_become
set_option maxRecDepth 100000 in
theorem dA374_cX12_text : kDec cX12_text [(67, .invokevirtual 154, 3), (70, .iload_n 1, 1), (71, .ireturn, 1), (36, .aload_n 0, 1), (37, .getfield 9, 3), (40, .iload_n 2, 1), (41, .iaload, 1), (42, .invokestatic 116, 3), (45, .ifCond .ne 10, 3), (55, .iinc 2 1, 3), (58, .goto (-27), 3), (48, .aload_n 0, 1), (49, .iload_n 2, 1), (50, .putfield 55, 3), (53, .iconst (-1), 1), (54, .ireturn, 1), (27, .iconst (-1), 1), (28, .ireturn, 1)] = true := by decide +kernel
theorem dX12_text_67 : decode cX12_text 67 = .ok (.invokevirtual 154, 3) := kDec_at dA374_cX12_text 0 rfl
theorem dX12_text_70 : decode cX12_text 70 = .ok (.iload_n 1, 1) := kDec_at dA374_cX12_text 1 rfl
theorem dX12_text_71 : decode cX12_text 71 = .ok (.ireturn, 1) := kDec_at dA374_cX12_text 2 rfl
theorem dX12_text_36 : decode cX12_text 36 = .ok (.aload_n 0, 1) := kDec_at dA374_cX12_text 3 rfl
theorem dX12_text_37 : decode cX12_text 37 = .ok (.getfield 9, 3) := kDec_at dA374_cX12_text 4 rfl
theorem dX12_text_40 : decode cX12_text 40 = .ok (.iload_n 2, 1) := kDec_at dA374_cX12_text 5 rfl
theorem dX12_text_41 : decode cX12_text 41 = .ok (.iaload, 1) := kDec_at dA374_cX12_text 6 rfl
theorem dX12_text_42 : decode cX12_text 42 = .ok (.invokestatic 116, 3) := kDec_at dA374_cX12_text 7 rfl
theorem dX12_text_45 : decode cX12_text 45 = .ok (.ifCond .ne 10, 3) := kDec_at dA374_cX12_text 8 rfl
theorem dX12_text_55 : decode cX12_text 55 = .ok (.iinc 2 1, 3) := kDec_at dA374_cX12_text 9 rfl
theorem dX12_text_58 : decode cX12_text 58 = .ok (.goto (-27), 3) := kDec_at dA374_cX12_text 10 rfl
theorem dX12_text_48 : decode cX12_text 48 = .ok (.aload_n 0, 1) := kDec_at dA374_cX12_text 11 rfl
theorem dX12_text_49 : decode cX12_text 49 = .ok (.iload_n 2, 1) := kDec_at dA374_cX12_text 12 rfl
theorem dX12_text_50 : decode cX12_text 50 = .ok (.putfield 55, 3) := kDec_at dA374_cX12_text 13 rfl
theorem dX12_text_53 : decode cX12_text 53 = .ok (.iconst (-1), 1) := kDec_at dA374_cX12_text 14 rfl
theorem dX12_text_54 : decode cX12_text 54 = .ok (.ireturn, 1) := kDec_at dA374_cX12_text 15 rfl
theorem dX12_text_27 : decode cX12_text 27 = .ok (.iconst (-1), 1) := kDec_at dA374_cX12_text 16 rfl
theorem dX12_text_28 : decode cX12_text 28 = .ok (.ireturn, 1) := kDec_at dA374_cX12_text 17 rfl
set_option maxRecDepth 20000 in
theorem ggX12_text_X12_isLetter : GoodIn wsX12_text wsX12_isLetter := goodIn_sub (fun _ h => List.mem_cons_of_mem _ (List.mem_append_left _ (List.mem_append_right _ (h)))) gX12_isLetter_all
set_option maxRecDepth 20000 in
theorem gX12_text_X12_isLetter : GoodIn wsX12_text (va_wsS RX12 116 yX12_isLetter wsX12_isLetter) := goodIn_app (goodIn_r _ [5, 6, 7] rfl (by decide +kernel)) ggX12_text_X12_isLetter
set_option maxRecDepth 100000 in
theorem dA375_cX11_read : kDec cX11_read [(0, .aload_n 0, 1), (1, .iconst (-1), 1), (2, .putfield 90, 3), (5, .iload_n 1, 1), (6, .invokestatic 117, 3), (9, .ifCond .eq 14, 3), (23, .iconst 0, 1), (24, .istore_n 2, 1), (25, .iload_n 2, 1), (26, .ifCond .eq 31, 3), (57, .aload_n 0, 1), (58, .getfield 30, 3), (61, .iconst 0, 1), (62, .invokevirtual 102, 3), (65, .iload_n 2, 1), (66, .ifCond .eq 14, 3), (80, .iconst (-1), 1), (81, .ireturn, 1), (12, .aload_n 0, 1), (13, .invokevirtual 120, 3), (16, .ifCond .eq 7, 3), (19, .iconst 1, 1), (20, .goto 4, 3), (29, .aload_n 0, 1)] = true := by decide +kernel
theorem dX11_read_0 : decode cX11_read 0 = .ok (.aload_n 0, 1) := kDec_at dA375_cX11_read 0 rfl
theorem dX11_read_1 : decode cX11_read 1 = .ok (.iconst (-1), 1) := kDec_at dA375_cX11_read 1 rfl
theorem dX11_read_2 : decode cX11_read 2 = .ok (.putfield 90, 3) := kDec_at dA375_cX11_read 2 rfl
theorem dX11_read_5 : decode cX11_read 5 = .ok (.iload_n 1, 1) := kDec_at dA375_cX11_read 3 rfl
theorem dX11_read_6 : decode cX11_read 6 = .ok (.invokestatic 117, 3) := kDec_at dA375_cX11_read 4 rfl
theorem dX11_read_9 : decode cX11_read 9 = .ok (.ifCond .eq 14, 3) := kDec_at dA375_cX11_read 5 rfl
theorem dX11_read_23 : decode cX11_read 23 = .ok (.iconst 0, 1) := kDec_at dA375_cX11_read 6 rfl
theorem dX11_read_24 : decode cX11_read 24 = .ok (.istore_n 2, 1) := kDec_at dA375_cX11_read 7 rfl
theorem dX11_read_25 : decode cX11_read 25 = .ok (.iload_n 2, 1) := kDec_at dA375_cX11_read 8 rfl
theorem dX11_read_26 : decode cX11_read 26 = .ok (.ifCond .eq 31, 3) := kDec_at dA375_cX11_read 9 rfl
theorem dX11_read_57 : decode cX11_read 57 = .ok (.aload_n 0, 1) := kDec_at dA375_cX11_read 10 rfl
theorem dX11_read_58 : decode cX11_read 58 = .ok (.getfield 30, 3) := kDec_at dA375_cX11_read 11 rfl
theorem dX11_read_61 : decode cX11_read 61 = .ok (.iconst 0, 1) := kDec_at dA375_cX11_read 12 rfl
theorem dX11_read_62 : decode cX11_read 62 = .ok (.invokevirtual 102, 3) := kDec_at dA375_cX11_read 13 rfl
theorem dX11_read_65 : decode cX11_read 65 = .ok (.iload_n 2, 1) := kDec_at dA375_cX11_read 14 rfl
theorem dX11_read_66 : decode cX11_read 66 = .ok (.ifCond .eq 14, 3) := kDec_at dA375_cX11_read 15 rfl
theorem dX11_read_80 : decode cX11_read 80 = .ok (.iconst (-1), 1) := kDec_at dA375_cX11_read 16 rfl
theorem dX11_read_81 : decode cX11_read 81 = .ok (.ireturn, 1) := kDec_at dA375_cX11_read 17 rfl
theorem dX11_read_12 : decode cX11_read 12 = .ok (.aload_n 0, 1) := kDec_at dA375_cX11_read 18 rfl
theorem dX11_read_13 : decode cX11_read 13 = .ok (.invokevirtual 120, 3) := kDec_at dA375_cX11_read 19 rfl
theorem dX11_read_16 : decode cX11_read 16 = .ok (.ifCond .eq 7, 3) := kDec_at dA375_cX11_read 20 rfl
theorem dX11_read_19 : decode cX11_read 19 = .ok (.iconst 1, 1) := kDec_at dA375_cX11_read 21 rfl
theorem dX11_read_20 : decode cX11_read 20 = .ok (.goto 4, 3) := kDec_at dA375_cX11_read 22 rfl
theorem dX11_read_29 : decode cX11_read 29 = .ok (.aload_n 0, 1) := kDec_at dA375_cX11_read 23 rfl
set_option maxRecDepth 20000 in
theorem ggX11_read_X2_known : GoodIn wsX11_read wsX2_known := goodIn_sub (fun _ h => List.mem_cons_of_mem _ (List.mem_append_left _ (List.mem_append_left _ (List.mem_append_left _ (List.mem_append_left _ (List.mem_append_left _ (List.mem_append_right _ (h)))))))) gX2_known_all
set_option maxRecDepth 20000 in
theorem gX11_read_X2_known : GoodIn wsX11_read (va_wsS RX11 117 yX2_known wsX2_known) := goodIn_app (goodIn_r _ [5, 6, 7] rfl (by decide +kernel)) ggX11_read_X2_known
set_option maxRecDepth 20000 in
theorem ggX11_read_X5_cut : GoodIn wsX11_read wsX5_cut := goodIn_sub (fun _ h => List.mem_cons_of_mem _ (List.mem_append_left _ (List.mem_append_right _ (h)))) gX5_cut_all
set_option maxRecDepth 20000 in
theorem gX11_read_X5_cut : GoodIn wsX11_read (wsV RX11 102 RX5 yX5_cut wsX5_cut) := goodIn_app (goodIn_r _ [22, 17, 18, 12] rfl (by decide +kernel)) ggX11_read_X5_cut
set_option maxRecDepth 20000 in
theorem gX11_tapeHoldsBytes_all : wsX11_tapeHoldsBytes.all goodWord = true := by
  unfold wsX11_tapeHoldsBytes
  exact good_c (by decide +kernel) (good_a (good_a (good_a (good_a ((by decide +kernel)) gX11_clsall) gX5_clsall) gX5_length_all) gX5_get_all)
set_option maxRecDepth 20000 in
theorem ggX11_read_X11_tapeHoldsBytes : GoodIn wsX11_read wsX11_tapeHoldsBytes := goodIn_sub (fun _ h => List.mem_cons_of_mem _ (List.mem_append_left _ (List.mem_append_left _ (List.mem_append_left _ (List.mem_append_left _ (List.mem_append_right _ (h))))))) gX11_tapeHoldsBytes_all
set_option maxRecDepth 20000 in
theorem gX11_read_X11_tapeHoldsBytes : GoodIn wsX11_read (wsV RX11 120 RX11 yX11_tapeHoldsBytes wsX11_tapeHoldsBytes) := goodIn_app (goodIn_r _ [8, 9, 10, 11] rfl (by decide +kernel)) ggX11_read_X11_tapeHoldsBytes
set_option maxRecDepth 100000 in
theorem dA376_cX11_read : kDec cX11_read [(30, .getfield 44, 3), (33, .iload_n 1, 1), (34, .aload_n 0, 1), (35, .getfield 30, 3), (38, .aload_n 0, 1), (39, .getfield 37, 3), (42, .invokevirtual 123, 3), (45, .istore_n 2, 1), (46, .aload_n 0, 1), (47, .aload_n 0, 1), (48, .getfield 44, 3), (51, .invokevirtual 127, 3), (54, .putfield 90, 3), (69, .aload_n 0, 1), (70, .aload_n 0, 1), (71, .getfield 37, 3), (74, .invokevirtual 113, 3), (77, .goto 4, 3)] = true := by decide +kernel
theorem dX11_read_30 : decode cX11_read 30 = .ok (.getfield 44, 3) := kDec_at dA376_cX11_read 0 rfl
theorem dX11_read_33 : decode cX11_read 33 = .ok (.iload_n 1, 1) := kDec_at dA376_cX11_read 1 rfl
theorem dX11_read_34 : decode cX11_read 34 = .ok (.aload_n 0, 1) := kDec_at dA376_cX11_read 2 rfl
theorem dX11_read_35 : decode cX11_read 35 = .ok (.getfield 30, 3) := kDec_at dA376_cX11_read 3 rfl
theorem dX11_read_38 : decode cX11_read 38 = .ok (.aload_n 0, 1) := kDec_at dA376_cX11_read 4 rfl
theorem dX11_read_39 : decode cX11_read 39 = .ok (.getfield 37, 3) := kDec_at dA376_cX11_read 5 rfl
theorem dX11_read_42 : decode cX11_read 42 = .ok (.invokevirtual 123, 3) := kDec_at dA376_cX11_read 6 rfl
theorem dX11_read_45 : decode cX11_read 45 = .ok (.istore_n 2, 1) := kDec_at dA376_cX11_read 7 rfl
theorem dX11_read_46 : decode cX11_read 46 = .ok (.aload_n 0, 1) := kDec_at dA376_cX11_read 8 rfl
theorem dX11_read_47 : decode cX11_read 47 = .ok (.aload_n 0, 1) := kDec_at dA376_cX11_read 9 rfl
theorem dX11_read_48 : decode cX11_read 48 = .ok (.getfield 44, 3) := kDec_at dA376_cX11_read 10 rfl
theorem dX11_read_51 : decode cX11_read 51 = .ok (.invokevirtual 127, 3) := kDec_at dA376_cX11_read 11 rfl
theorem dX11_read_54 : decode cX11_read 54 = .ok (.putfield 90, 3) := kDec_at dA376_cX11_read 12 rfl
theorem dX11_read_69 : decode cX11_read 69 = .ok (.aload_n 0, 1) := kDec_at dA376_cX11_read 13 rfl
theorem dX11_read_70 : decode cX11_read 70 = .ok (.aload_n 0, 1) := kDec_at dA376_cX11_read 14 rfl
theorem dX11_read_71 : decode cX11_read 71 = .ok (.getfield 37, 3) := kDec_at dA376_cX11_read 15 rfl
theorem dX11_read_74 : decode cX11_read 74 = .ok (.invokevirtual 113, 3) := kDec_at dA376_cX11_read 16 rfl
theorem dX11_read_77 : decode cX11_read 77 = .ok (.goto 4, 3) := kDec_at dA376_cX11_read 17 rfl
set_option maxRecDepth 20000 in
theorem ggX11_read_X7_readExactly : GoodIn wsX11_read wsX7_readExactly := goodIn_sub (fun _ h => List.mem_cons_of_mem _ (List.mem_append_left _ (List.mem_append_left _ (List.mem_append_left _ (List.mem_append_right _ (h)))))) gX7_readExactly_all
set_option maxRecDepth 20000 in
theorem gX11_read_X7_readExactly : GoodIn wsX11_read (wsV RX11 123 RX7 yX7_readExactly wsX7_readExactly) := goodIn_app (goodIn_r _ [13, 14, 15, 16] rfl (by decide +kernel)) ggX11_read_X7_readExactly
set_option maxRecDepth 20000 in
theorem ggX11_read_X7_fault : GoodIn wsX11_read wsX7_fault := goodIn_sub (fun _ h => List.mem_cons_of_mem _ (List.mem_append_left _ (List.mem_append_left _ (List.mem_append_right _ (h))))) gX7_fault_all
set_option maxRecDepth 20000 in
theorem gX11_read_X7_fault : GoodIn wsX11_read (wsV RX11 127 RX7 yX7_fault wsX7_fault) := goodIn_app (goodIn_r _ [19, 20, 21, 16] rfl (by decide +kernel)) ggX11_read_X7_fault
set_option maxRecDepth 20000 in
theorem ggX11_read_X11_become : GoodIn wsX11_read wsX11_become := goodIn_sub (fun _ h => List.mem_cons_of_mem _ (List.mem_append_right _ (h))) gX11_become_all
set_option maxRecDepth 20000 in
theorem gX11_read_X11_become : GoodIn wsX11_read (wsV RX11 113 RX11 yX11_become wsX11_become) := goodIn_app (goodIn_r _ [23, 24, 25, 11] rfl (by decide +kernel)) ggX11_read_X11_become
set_option maxRecDepth 100000 in
theorem dA377_cX12_read_ : kDec cX12_read_ [(0, .aload_n 0, 1), (1, .iconst 0, 1), (2, .putfield 85, 3), (5, .aload_n 0, 1), (6, .iconst (-1), 1), (7, .putfield 55, 3), (10, .aload_n 0, 1), (11, .getfield 151, 3), (14, .istore_n 2, 1), (15, .aload_n 0, 1), (16, .iconst 0, 1), (17, .putfield 151, 3), (20, .iload_n 1, 1), (21, .invokestatic 158, 3), (24, .ifCond .ne 5, 3), (29, .iconst 0, 1), (30, .istore_n 3, 1), (31, .iload_n 3, 1), (32, .iload_n 2, 1), (33, .if_icmp .ge 49, 3), (82, .aload_n 0, 1), (83, .iload_n 2, 1), (84, .putfield 91, 3), (87, .aload_n 0, 1)] = true := by decide +kernel
theorem dX12_read__0 : decode cX12_read_ 0 = .ok (.aload_n 0, 1) := kDec_at dA377_cX12_read_ 0 rfl
theorem dX12_read__1 : decode cX12_read_ 1 = .ok (.iconst 0, 1) := kDec_at dA377_cX12_read_ 1 rfl
theorem dX12_read__2 : decode cX12_read_ 2 = .ok (.putfield 85, 3) := kDec_at dA377_cX12_read_ 2 rfl
theorem dX12_read__5 : decode cX12_read_ 5 = .ok (.aload_n 0, 1) := kDec_at dA377_cX12_read_ 3 rfl
theorem dX12_read__6 : decode cX12_read_ 6 = .ok (.iconst (-1), 1) := kDec_at dA377_cX12_read_ 4 rfl
theorem dX12_read__7 : decode cX12_read_ 7 = .ok (.putfield 55, 3) := kDec_at dA377_cX12_read_ 5 rfl
theorem dX12_read__10 : decode cX12_read_ 10 = .ok (.aload_n 0, 1) := kDec_at dA377_cX12_read_ 6 rfl
theorem dX12_read__11 : decode cX12_read_ 11 = .ok (.getfield 151, 3) := kDec_at dA377_cX12_read_ 7 rfl
theorem dX12_read__14 : decode cX12_read_ 14 = .ok (.istore_n 2, 1) := kDec_at dA377_cX12_read_ 8 rfl
theorem dX12_read__15 : decode cX12_read_ 15 = .ok (.aload_n 0, 1) := kDec_at dA377_cX12_read_ 9 rfl
theorem dX12_read__16 : decode cX12_read_ 16 = .ok (.iconst 0, 1) := kDec_at dA377_cX12_read_ 10 rfl
theorem dX12_read__17 : decode cX12_read_ 17 = .ok (.putfield 151, 3) := kDec_at dA377_cX12_read_ 11 rfl
theorem dX12_read__20 : decode cX12_read_ 20 = .ok (.iload_n 1, 1) := kDec_at dA377_cX12_read_ 12 rfl
theorem dX12_read__21 : decode cX12_read_ 21 = .ok (.invokestatic 158, 3) := kDec_at dA377_cX12_read_ 13 rfl
theorem dX12_read__24 : decode cX12_read_ 24 = .ok (.ifCond .ne 5, 3) := kDec_at dA377_cX12_read_ 14 rfl
theorem dX12_read__29 : decode cX12_read_ 29 = .ok (.iconst 0, 1) := kDec_at dA377_cX12_read_ 15 rfl
theorem dX12_read__30 : decode cX12_read_ 30 = .ok (.istore_n 3, 1) := kDec_at dA377_cX12_read_ 16 rfl
theorem dX12_read__31 : decode cX12_read_ 31 = .ok (.iload_n 3, 1) := kDec_at dA377_cX12_read_ 17 rfl
theorem dX12_read__32 : decode cX12_read_ 32 = .ok (.iload_n 2, 1) := kDec_at dA377_cX12_read_ 18 rfl
theorem dX12_read__33 : decode cX12_read_ 33 = .ok (.if_icmp .ge 49, 3) := kDec_at dA377_cX12_read_ 19 rfl
theorem dX12_read__82 : decode cX12_read_ 82 = .ok (.aload_n 0, 1) := kDec_at dA377_cX12_read_ 20 rfl
theorem dX12_read__83 : decode cX12_read_ 83 = .ok (.iload_n 2, 1) := kDec_at dA377_cX12_read_ 21 rfl
theorem dX12_read__84 : decode cX12_read_ 84 = .ok (.putfield 91, 3) := kDec_at dA377_cX12_read_ 22 rfl
theorem dX12_read__87 : decode cX12_read_ 87 = .ok (.aload_n 0, 1) := kDec_at dA377_cX12_read_ 23 rfl
set_option maxRecDepth 20000 in
theorem ggX12_read__X12_isCode : GoodIn wsX12_read_ wsX12_isCode := goodIn_sub (fun _ h => List.mem_cons_of_mem _ (List.mem_append_left _ (List.mem_append_left _ (List.mem_append_right _ (h))))) gX12_isCode_all
set_option maxRecDepth 20000 in
theorem gX12_read__X12_isCode : GoodIn wsX12_read_ (va_wsS RX12 158 yX12_isCode wsX12_isCode) := goodIn_app (goodIn_r _ [10, 11, 12] rfl (by decide +kernel)) ggX12_read__X12_isCode
set_option maxRecDepth 100000 in
theorem dA378_cX12_read_ : kDec cX12_read_ [(88, .iload_n 1, 1), (89, .iconst 0, 1), (90, .invokevirtual 131, 3), (93, .ifCond .ne 13, 3), (106, .aload_n 0, 1), (107, .getfield 119, 3), (110, .sipush 300, 3), (113, .if_icmp .le 5, 3), (118, .aload_n 0, 1), (119, .aload_n 0, 1), (120, .getfield 61, 3), (123, .aload_n 0, 1), (124, .getfield 119, 3), (127, .invokevirtual 154, 3), (130, .aload_n 0, 1), (131, .getfield 119, 3), (134, .ireturn, 1), (116, .iconst (-1), 1), (117, .ireturn, 1), (96, .aload_n 0, 1), (97, .aload_n 0, 1), (98, .getfield 102, 3), (101, .putfield 55, 3), (104, .iconst (-1), 1)] = true := by decide +kernel
theorem dX12_read__88 : decode cX12_read_ 88 = .ok (.iload_n 1, 1) := kDec_at dA378_cX12_read_ 0 rfl
theorem dX12_read__89 : decode cX12_read_ 89 = .ok (.iconst 0, 1) := kDec_at dA378_cX12_read_ 1 rfl
theorem dX12_read__90 : decode cX12_read_ 90 = .ok (.invokevirtual 131, 3) := kDec_at dA378_cX12_read_ 2 rfl
theorem dX12_read__93 : decode cX12_read_ 93 = .ok (.ifCond .ne 13, 3) := kDec_at dA378_cX12_read_ 3 rfl
theorem dX12_read__106 : decode cX12_read_ 106 = .ok (.aload_n 0, 1) := kDec_at dA378_cX12_read_ 4 rfl
theorem dX12_read__107 : decode cX12_read_ 107 = .ok (.getfield 119, 3) := kDec_at dA378_cX12_read_ 5 rfl
theorem dX12_read__110 : decode cX12_read_ 110 = .ok (.sipush 300, 3) := kDec_at dA378_cX12_read_ 6 rfl
theorem dX12_read__113 : decode cX12_read_ 113 = .ok (.if_icmp .le 5, 3) := kDec_at dA378_cX12_read_ 7 rfl
theorem dX12_read__118 : decode cX12_read_ 118 = .ok (.aload_n 0, 1) := kDec_at dA378_cX12_read_ 8 rfl
theorem dX12_read__119 : decode cX12_read_ 119 = .ok (.aload_n 0, 1) := kDec_at dA378_cX12_read_ 9 rfl
theorem dX12_read__120 : decode cX12_read_ 120 = .ok (.getfield 61, 3) := kDec_at dA378_cX12_read_ 10 rfl
theorem dX12_read__123 : decode cX12_read_ 123 = .ok (.aload_n 0, 1) := kDec_at dA378_cX12_read_ 11 rfl
theorem dX12_read__124 : decode cX12_read_ 124 = .ok (.getfield 119, 3) := kDec_at dA378_cX12_read_ 12 rfl
theorem dX12_read__127 : decode cX12_read_ 127 = .ok (.invokevirtual 154, 3) := kDec_at dA378_cX12_read_ 13 rfl
theorem dX12_read__130 : decode cX12_read_ 130 = .ok (.aload_n 0, 1) := kDec_at dA378_cX12_read_ 14 rfl
theorem dX12_read__131 : decode cX12_read_ 131 = .ok (.getfield 119, 3) := kDec_at dA378_cX12_read_ 15 rfl
theorem dX12_read__134 : decode cX12_read_ 134 = .ok (.ireturn, 1) := kDec_at dA378_cX12_read_ 16 rfl
theorem dX12_read__116 : decode cX12_read_ 116 = .ok (.iconst (-1), 1) := kDec_at dA378_cX12_read_ 17 rfl
theorem dX12_read__117 : decode cX12_read_ 117 = .ok (.ireturn, 1) := kDec_at dA378_cX12_read_ 18 rfl
theorem dX12_read__96 : decode cX12_read_ 96 = .ok (.aload_n 0, 1) := kDec_at dA378_cX12_read_ 19 rfl
theorem dX12_read__97 : decode cX12_read_ 97 = .ok (.aload_n 0, 1) := kDec_at dA378_cX12_read_ 20 rfl
theorem dX12_read__98 : decode cX12_read_ 98 = .ok (.getfield 102, 3) := kDec_at dA378_cX12_read_ 21 rfl
theorem dX12_read__101 : decode cX12_read_ 101 = .ok (.putfield 55, 3) := kDec_at dA378_cX12_read_ 22 rfl
theorem dX12_read__104 : decode cX12_read_ 104 = .ok (.iconst (-1), 1) := kDec_at dA378_cX12_read_ 23 rfl
set_option maxRecDepth 20000 in
theorem ggX12_read__X12_read : GoodIn wsX12_read_ wsX12_read := goodIn_sub (fun _ h => List.mem_cons_of_mem _ (List.mem_append_left _ (List.mem_append_right _ (h)))) gX12_read_all
set_option maxRecDepth 20000 in
theorem gX12_read__X12_read : GoodIn wsX12_read_ (wsV RX12 131 RX12 yX12_read wsX12_read) := goodIn_app (goodIn_r _ [13, 14, 15, 12] rfl (by decide +kernel)) ggX12_read__X12_read
set_option maxRecDepth 20000 in
theorem ggX12_read__X12_become : GoodIn wsX12_read_ wsX12_become := goodIn_sub (fun _ h => List.mem_cons_of_mem _ (List.mem_append_right _ (h))) gX12_become_all
set_option maxRecDepth 20000 in
theorem gX12_read__X12_become : GoodIn wsX12_read_ (wsV RX12 154 RX12 yX12_become wsX12_become) := goodIn_app (goodIn_r _ [16, 17, 18, 12] rfl (by decide +kernel)) ggX12_read__X12_become
set_option maxRecDepth 100000 in
theorem dA379_cX12_read_ : kDec cX12_read_ [(105, .ireturn, 1), (36, .aload_n 0, 1), (37, .getfield 9, 3), (40, .iload_n 3, 1), (41, .iaload, 1), (42, .ifCond .lt 15, 3), (57, .aload_n 0, 1), (58, .iload_n 3, 1), (59, .putfield 55, 3), (62, .iconst (-1), 1), (63, .ireturn, 1), (45, .aload_n 0, 1), (46, .getfield 9, 3), (49, .iload_n 3, 1), (50, .iaload, 1), (51, .sipush 255, 3), (54, .if_icmp .le 10, 3), (64, .aload_n 0, 1), (65, .getfield 58, 3), (68, .iload_n 3, 1), (69, .aload_n 0, 1), (70, .getfield 9, 3), (73, .iload_n 3, 1), (74, .iaload, 1)] = true := by decide +kernel
theorem dX12_read__105 : decode cX12_read_ 105 = .ok (.ireturn, 1) := kDec_at dA379_cX12_read_ 0 rfl
theorem dX12_read__36 : decode cX12_read_ 36 = .ok (.aload_n 0, 1) := kDec_at dA379_cX12_read_ 1 rfl
theorem dX12_read__37 : decode cX12_read_ 37 = .ok (.getfield 9, 3) := kDec_at dA379_cX12_read_ 2 rfl
theorem dX12_read__40 : decode cX12_read_ 40 = .ok (.iload_n 3, 1) := kDec_at dA379_cX12_read_ 3 rfl
theorem dX12_read__41 : decode cX12_read_ 41 = .ok (.iaload, 1) := kDec_at dA379_cX12_read_ 4 rfl
theorem dX12_read__42 : decode cX12_read_ 42 = .ok (.ifCond .lt 15, 3) := kDec_at dA379_cX12_read_ 5 rfl
theorem dX12_read__57 : decode cX12_read_ 57 = .ok (.aload_n 0, 1) := kDec_at dA379_cX12_read_ 6 rfl
theorem dX12_read__58 : decode cX12_read_ 58 = .ok (.iload_n 3, 1) := kDec_at dA379_cX12_read_ 7 rfl
theorem dX12_read__59 : decode cX12_read_ 59 = .ok (.putfield 55, 3) := kDec_at dA379_cX12_read_ 8 rfl
theorem dX12_read__62 : decode cX12_read_ 62 = .ok (.iconst (-1), 1) := kDec_at dA379_cX12_read_ 9 rfl
theorem dX12_read__63 : decode cX12_read_ 63 = .ok (.ireturn, 1) := kDec_at dA379_cX12_read_ 10 rfl
theorem dX12_read__45 : decode cX12_read_ 45 = .ok (.aload_n 0, 1) := kDec_at dA379_cX12_read_ 11 rfl
theorem dX12_read__46 : decode cX12_read_ 46 = .ok (.getfield 9, 3) := kDec_at dA379_cX12_read_ 12 rfl
theorem dX12_read__49 : decode cX12_read_ 49 = .ok (.iload_n 3, 1) := kDec_at dA379_cX12_read_ 13 rfl
theorem dX12_read__50 : decode cX12_read_ 50 = .ok (.iaload, 1) := kDec_at dA379_cX12_read_ 14 rfl
theorem dX12_read__51 : decode cX12_read_ 51 = .ok (.sipush 255, 3) := kDec_at dA379_cX12_read_ 15 rfl
theorem dX12_read__54 : decode cX12_read_ 54 = .ok (.if_icmp .le 10, 3) := kDec_at dA379_cX12_read_ 16 rfl
theorem dX12_read__64 : decode cX12_read_ 64 = .ok (.aload_n 0, 1) := kDec_at dA379_cX12_read_ 17 rfl
theorem dX12_read__65 : decode cX12_read_ 65 = .ok (.getfield 58, 3) := kDec_at dA379_cX12_read_ 18 rfl
theorem dX12_read__68 : decode cX12_read_ 68 = .ok (.iload_n 3, 1) := kDec_at dA379_cX12_read_ 19 rfl
theorem dX12_read__69 : decode cX12_read_ 69 = .ok (.aload_n 0, 1) := kDec_at dA379_cX12_read_ 20 rfl
theorem dX12_read__70 : decode cX12_read_ 70 = .ok (.getfield 9, 3) := kDec_at dA379_cX12_read_ 21 rfl
theorem dX12_read__73 : decode cX12_read_ 73 = .ok (.iload_n 3, 1) := kDec_at dA379_cX12_read_ 22 rfl
theorem dX12_read__74 : decode cX12_read_ 74 = .ok (.iaload, 1) := kDec_at dA379_cX12_read_ 23 rfl
set_option maxRecDepth 100000 in
theorem dA380_cX12_read_ : kDec cX12_read_ [(75, .iastore, 1), (76, .iinc 3 1, 3), (79, .goto (-48), 3), (27, .iconst (-1), 1), (28, .ireturn, 1)] = true := by decide +kernel
theorem dX12_read__75 : decode cX12_read_ 75 = .ok (.iastore, 1) := kDec_at dA380_cX12_read_ 0 rfl
theorem dX12_read__76 : decode cX12_read_ 76 = .ok (.iinc 3 1, 3) := kDec_at dA380_cX12_read_ 1 rfl
theorem dX12_read__79 : decode cX12_read_ 79 = .ok (.goto (-48), 3) := kDec_at dA380_cX12_read_ 2 rfl
theorem dX12_read__27 : decode cX12_read_ 27 = .ok (.iconst (-1), 1) := kDec_at dA380_cX12_read_ 3 rfl
theorem dX12_read__28 : decode cX12_read_ 28 = .ok (.ireturn, 1) := kDec_at dA380_cX12_read_ 4 rfl

end
