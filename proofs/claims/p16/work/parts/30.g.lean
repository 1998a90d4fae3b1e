/-! 59v.rows -/
section
/-! mend() of the reference -/
section MND
variable {U : Nat → Nat → (Nat → Int32) → Nat → (Nat → Int32) → Prop}
def MIq (R : Nat → Int32) (z : Nat) (nn : Int) (P : Nat) (be bn bc le nu : Int) : Prop := nu = nF R P ∧ ((be = -1 ∧ ∀ q, q < P → R q = -1) ∨ ∃ k code : Nat, 1 ≤ k ∧ k ≤ 3 ∧ (k : Int) ≤ nn ∧ code < rpz z k ∧ bn = k ∧ bc = code ∧ le = (R (roff z k + code)).toInt ∧ be = nF R (roff z k + code) ∧ mnP R P (roff z k + code))
theorem MIq_0 {R : Nat → Int32} {z P : Nat} {nn be bn bc le nu : Int} (hP : P = 0) (hb : be = -1) (hn : nu = 0) : MIq R z nn P be bn bc le nu := by
  subst hP
  exact ⟨by rw [hn]; rfl, Or.inl ⟨hb, fun q hq => absurd hq (Nat.not_lt_zero q)⟩⟩
theorem MIq_n {R : Nat → Int32} {z P P' : Nat} {nn be bn bc le nu : Int} (h : MIq R z nn P be bn bc le nu) (hR : R P = -1) (hP : P' = P + 1) : MIq R z nn P' be bn bc le nu := by
  subst hP
  refine ⟨by rw [nF_n hR]; exact h.1, ?_⟩
  rcases h.2 with ⟨a, b⟩ | ⟨k, code, a1, a2, a3, a4, a5, a6, a7, a8, a9⟩
  · refine Or.inl ⟨a, fun q hq => ?_⟩
    by_cases e : q = P
    · rw [e]; exact hR
    · exact b q (by omega)
  · exact Or.inr ⟨k, code, a1, a2, a3, a4, a5, a6, a7, a8, mnP_keep a9 (Or.inl hR)⟩
theorem MIq_k {R : Nat → Int32} {z P P' : Nat} {nn be bn bc le nu nu' x : Int} (h : MIq R z nn P be bn bc le nu) (hR : (R P).toInt = x ∧ ¬ R P = -1) (hP : P' = P + 1) (hb : ¬ be = -1) (hx : le ≤ x) (hn : nu' = nu + 1) : MIq R z nn P' be bn bc le nu' := by
  subst hP
  refine ⟨by rw [nF_y hR.2, hn, h.1]; rfl, ?_⟩
  rcases h.2 with ⟨a, b⟩ | ⟨k, code, a1, a2, a3, a4, a5, a6, a7, a8, a9⟩
  · exact absurd a hb
  · exact Or.inr ⟨k, code, a1, a2, a3, a4, a5, a6, a7, a8, mnP_keep a9 (Or.inr (by rw [← a7, hR.1]; exact hx))⟩
theorem MIq_w {R : Nat → Int32} {z P P' k code : Nat} {nn be bn bc le nu be' bn' bc' le' nu' : Int} (h : MIq R z nn P be bn bc le nu) (hp : P = roff z k + code) (hR : (R P).toInt = le' ∧ ¬ R P = -1) (hP : P' = P + 1) (k1 : 1 ≤ k) (k2 : k ≤ 3) (k4 : (k : Int) ≤ nn) (hc : code < rpz z k) (h1 : bn' = k) (h2 : bc' = code) (h3 : be' = nu) (hx : be = -1 ∨ le' < le) (hn : nu' = nu + 1) : MIq R z nn P' be' bn' bc' le' nu' := by
  subst hP
  refine ⟨by rw [nF_y hR.2, hn, h.1]; rfl, Or.inr ⟨k, code, k1, k2, k4, hc, h1, h2, by rw [← hp]; exact hR.1.symm, by rw [← hp, h3]; exact h.1, ?_⟩⟩
  rw [← hp]
  refine mnP_new hR.2 ?_
  rcases h.2 with ⟨a, b⟩ | ⟨k', code', a1, a2, a3, a4, a5, a6, a7, a8, a9⟩
  · exact Or.inl b
  · rcases hx with hx | hx
    · omega
    · exact Or.inr ⟨_, a9, by rw [← a7, hR.1]; exact hx⟩
theorem MIq_e {R : Nat → Int32} {z P P' : Nat} {nn be bn bc le nu : Int} (h : MIq R z nn P be bn bc le nu) (hP : P = P') : MIq R z nn P' be bn bc le nu := by rw [← hP]; exact h
theorem rpz_0 {k : Nat} (h1 : 1 ≤ k) : rpz 0 k = 0 := by
  match k, h1 with
  | 1, _ => rfl
  | 2, _ => rfl
  | k + 3, _ => rfl
theorem bd_ge (hU : okU U) {T : Int32 → Int32 → Int32} {z n k code : Nat} {f f' : Nat → Int32} {nn m x : Int} {r l : Int32} {R1 R2 R3 : Nat → Int32} (h : rGE U T z n f nn R1 R2 R3) (em : m.toNat = n) (hn : n ≤ 300) (hf : prg n 0 65535 f) (hb : F_bd U (digs z k code) r l f' m f) (hr : ¬ r.toInt = 0) (k1 : 1 ≤ k) (k2 : k ≤ 3) (k4 : (k : Int) ≤ nn) (hc : code < rpz z k) (hx : x = cT T l.toInt f') : (R1 (roff z k + code)).toInt = x ∧ ¬ R1 (roff z k + code) = -1 := by
  unfold F_bd at hb
  rw [em] at hb
  rcases hb with ⟨b1, c', b2, b3⟩ | ⟨b1, _⟩
  · obtain ⟨g1, g2, _⟩ := ge_y hU h hn hf k1 k2 k4 hc b3
    exact ⟨by rw [g1, hx, b2], g2⟩
  · exact absurd (by rw [b1]; rfl) hr
theorem bd_gn {T : Int32 → Int32 → Int32} {z n k code : Nat} {f f' : Nat → Int32} {nn m : Int} {r l : Int32} {R1 R2 R3 : Nat → Int32} (h : rGE U T z n f nn R1 R2 R3) (em : m.toNat = n) (hb : F_bd U (digs z k code) r l f' m f) (hr : r.toInt = 0) (k1 : 1 ≤ k) (k2 : k ≤ 3) (hc : code < rpz z k) : R1 (roff z k + code) = -1 := by
  unfold F_bd at hb
  rw [em] at hb
  rcases hb with ⟨b1, _⟩ | ⟨_, b2⟩
  · rw [b1] at hr; exact absurd hr (by decide)
  · exact ge_n h k1 k2 hc b2
/-- behind the last row of at most nn harms nothing stands -/
theorem ge_end {T : Int32 → Int32 → Int32} {z n q P N : Nat} {f : Nat → Int32} {nn : Int} {R1 R2 R3 : Nat → Int32} (h : rGE U T z n f nn R1 R2 R3) (hN : (N : Int) = nn) (hN3 : N ≤ 3) (hP : P = roff z (N + 1)) (h1 : P ≤ q) (h2 : q < 258) : R1 q = -1 := by
  refine Classical.byContradiction (fun w => ?_)
  obtain ⟨k, code, k1, k2, k4, hc, e, _⟩ := ge_code h h2 w
  have s := roff_s (z := z) k1 k2
  have m := roff_m (z := z) (k := k + 1) (k' := N + 1) (by omega) (by omega) (by omega)
  omega
theorem mn_all {T : Int32 → Int32 → Int32} {z n p P N : Nat} {f : Nat → Int32} {nn : Int} {R1 R2 R3 : Nat → Int32} (h : rGE U T z n f nn R1 R2 R3) (hz : z ≤ 6) (hN : (N : Int) = nn) (hN3 : N ≤ 3) (hP : P = roff z (N + 1)) (hm : mnP R1 P p) : mnP R1 258 p := by
  obtain ⟨a1, a2, a3, a4⟩ := hm
  have m := roff_m (z := z) (k := N + 1) (k' := 4) (by omega) (by omega) (by omega)
  have o := roff_4 hz
  refine ⟨by omega, a2, fun q hq hr => ?_, a4⟩
  by_cases w : q < P
  · exact a3 q w hr
  · exact absurd (ge_end h hN hN3 hP (by omega) hq) hr
theorem mi_none {T : Int32 → Int32 → Int32} {z n P N : Nat} {f : Nat → Int32} {nn gain be bn bc le nu : Int} {R1 R2 R3 : Nat → Int32} (h : rGE U T z n f nn R1 R2 R3) (hm : MIq R1 z nn P be bn bc le nu) (hN : (N : Int) = nn) (hN3 : N ≤ 3) (hP : P = roff z (N + 1)) (hb : be = -1) : ∀ c fm v, ¬ mdP U T z n f nn gain R1 c fm v := by
  rintro c fm v ⟨_, k, code, _, _, _, _, w, _⟩
  rcases hm.2 with ⟨_, a⟩ | ⟨k', code', _, _, _, _, _, _, _, a8, _⟩
  · by_cases q : roff z k + code < P
    · exact w.2.1 (a _ q)
    · exact w.2.1 (ge_end h hN hN3 hP (by omega) w.1)
  · omega
theorem mi_less {T : Int32 → Int32 → Int32} {z n P N : Nat} {f : Nat → Int32} {nn gain be bn bc le nu x : Int} {R1 R2 R3 : Nat → Int32} (h : rGE U T z n f nn R1 R2 R3) (hm : MIq R1 z nn P be bn bc le nu) (hz : z ≤ 6) (hN : (N : Int) = nn) (hN3 : N ≤ 3) (hP : P = roff z (N + 1)) (hb : ¬ be = -1) (hx : x = cT T n f) (hl : x - le < gain) : ∀ c fm v, ¬ mdP U T z n f nn gain R1 c fm v := by
  rcases hm.2 with ⟨a, _⟩ | ⟨k, code, a1, a2, a3, a4, a5, a6, a7, a8, a9⟩
  · exact absurd a hb
  · exact md_less (mn_all h hz hN hN3 hP a9) (by rw [← a7, ← hx]; exact hl)
theorem mi_done (hU : okU U) {T : Int32 → Int32 → Int32} {z n P N : Nat} {f f' : Nat → Int32} {nn gain be nu x le m : Int} {bn bc r l : Int32} {R1 R2 R3 : Nat → Int32} (h : rGE U T z n f nn R1 R2 R3) (hm : MIq R1 z nn P be bn.toInt bc.toInt le nu) (hz : z ≤ 6) (hN : (N : Int) = nn) (hN3 : N ≤ 3) (hP : P = roff z (N + 1)) (hb : ¬ be = -1) (em : m.toNat = n) (hn : n ≤ 300) (hf : prg n 0 65535 f) (hx : x = cT T n f) (hl : gain ≤ x - le) (hg : 1 ≤ nn ∧ nn ≤ 3 ∧ 1 ≤ gain ∧ gain ≤ 100000) (hbd : F_bd U (digs z bn.toNatClampNeg bc.toNatClampNeg) r l f' m f) : ∃ c : Nat, l.toInt = c ∧ mdP U T z n f nn gain R1 c f' be := by
  rcases hm.2 with ⟨a, _⟩ | ⟨k, code, a1, a2, a3, a4, a5, a6, a7, a8, a9⟩
  · exact absurd a hb
  · have w := mn_all h hz hN hN3 hP a9
    rw [ix_eq a5, ix_eq a6] at hbd
    unfold F_bd at hbd
    rw [em] at hbd
    rcases hbd with ⟨b1, c', b2, b3⟩ | ⟨_, b2⟩
    · exact ⟨c', b2, hg, k, code, a1, a2, a3, a4, w, by rw [← a7, ← hx]; exact hl, b3, a8⟩
    · obtain ⟨k', code', k1', k2', k4', hc', e', c', f2, hM⟩ := ge_code h w.1 w.2.1
      obtain ⟨q1, q2⟩ := off_inj a1 a2 k1' k2' a4 hc' e'
      subst q1
      subst q2
      exact absurd hM (b2 _ _)
theorem off_258 {z k : Nat} (hz : z ≤ 6) (h1 : 1 ≤ k) (h3 : k ≤ 3) : roff z k + rpz z k ≤ 258 := by
  have s := roff_s (z := z) h1 h3
  have m := roff_m (z := z) (k := k + 1) (k' := 4) (by omega) (by omega) (by omega)
  have o := roff_4 hz
  omega
theorem cT_s0 {T : Int32 → Int32 → Int32} {f : Nat → Int32} {r s x : Int} (h : r = cT T x f) (e : x = s) (h0 : 0 ≤ s) : r = cT T ((s.toNat : Nat) : Int) f := by
  have e2 : ((s.toNat : Nat) : Int) = s := by omega
  rw [e2, ← e]; exact h
end MND

set_option maxHeartbeats 40000000 in
set_option maxRecDepth 100000 in
theorem f_X12_mend (l : Launch) (dC : Nat → ClassId) (dI : Nat → Nat → Nat) (cI cS : ClassId) (sz : Nat) (oM : Nat) (mT : Nat) (mS : Nat) (mX : Nat) (mL : Nat) (mB : Nat) (mD : Nat) (m1 : Nat) (m2 : Nat) (mR : Nat) (x1 : Nat) (x2 : Nat) (x3 : Nat) (mH : Nat) (mY : Nat) (mE : Nat) (mW : Nat) (mO : Nat) (y1 : Nat) (y2 : Nat) (y3 : Nat) (y4 : Nat) (mZ : Nat) (zt : Int32) (zp : Int32) (zf : Int32) (zh : Int32) (zr : Int32) (zc : Int32) (zy : Int32) (za : Int32) (zb : Int32) (zs : Int32) (zq : Int32) (zw : Int32) (ze : Int32) (zn : Int32) (zm : Int32) (zl : Int32) (zk : Int32) (zd : Int32) (eY : Nat → Int32) (eB : Nat → Int32) (eL : Nat → Int32) (eE : Nat → Int32) (eW : Nat → Int32) (eO : Nat → Int32) (eS : Nat → Int32) (eX : Nat → Int32) (e1 : Nat → Int32) (e2 : Nat → Int32) (ec1 : Nat → Int32) (ec2 : Nat → Int32) (ec3 : Nat → Int32) (n : Int32) (gi : Int32) (g_zt : 0 ≤ zt.toInt ∧ zt.toInt ≤ 900) (g_zp : 0 ≤ zp.toInt ∧ zp.toInt ≤ 20) (g_zf : 0 ≤ zf.toInt ∧ zf.toInt ≤ 19) (g_zh : 0 ≤ zh.toInt ∧ zh.toInt ≤ 6) (g_zr : 0 ≤ zr.toInt ∧ zr.toInt ≤ 258) (g_zc : 0 ≤ zc.toInt ∧ zc.toInt ≤ 300) (g_zy : 0 ≤ zy.toInt ∧ zy.toInt ≤ 65536) (g_za : 0 ≤ za.toInt ∧ za.toInt ≤ 5) (g_zb : 0 ≤ zb.toInt ∧ zb.toInt ≤ 5) (g_zs : 0 ≤ zs.toInt ∧ zs.toInt ≤ 2000000) (g_zq : -1 ≤ zq.toInt ∧ zq.toInt ≤ 2000000) (g_zn : 0 ≤ zn.toInt ∧ zn.toInt ≤ 2600) (g_zm : 0 ≤ zm.toInt ∧ zm.toInt ≤ 2600) (g_zk : 0 ≤ zk.toInt ∧ zk.toInt ≤ 300) (g_eY : rg 0 255 eY) (g_eB : rg (-1) 255 eB) (g_eL : rg (-1) 65535 eL) (g_eE : rg 0 65535 eE) (g_eW : rg 0 65535 eW) (g_eO : rg 0 65535 eO) (g_eS : rg 0 300 eS) (g_eX : rg 0 65535 eX) (g_e1 : rg 0 5 e1) (g_e2 : rg 0 5 e2) (hxl : ∀ j : Nat, (j : Int) < (eS 0).toInt → isLz (eX j)) (hlb : LBr eL eB) (hlz : LZ eL) (hV : rg 0 200 ec3) (hzs : zs.toInt ≤ 1000000) : kMi l yX12_mend wsX12_mend ({ frames := 6, cells := 0, slots := 0, locals := 145 } : Room) [.ref oM, .int n, .int gi] sz (dC, dI) vwCl [(cI, .int), (cS, .short)] [(oM, .inr (12, [.ref mT, .int zt, .ref mS, .ref mX, .int zp, .int zf, .ref mL, .ref mB, .ref mD, .ref m1, .ref m2, .int zh, .ref mR, .int zr, .ref x1, .ref x2, .ref x3, .int zc, .ref mH, .int zy, .int za, .int zb, .int zs, .int zq, .int zw, .int ze, .ref mY, .int zn, .ref mE, .int zm, .int zl, .ref mW, .int zk, .ref mO, .int zd, .ref y1, .ref y2, .ref y3, .ref y4, .ref mZ])), (mY, .inl (cI, 2600, .inl eY)), (mB, .inl (cS, 131072, .inl eB)), (mL, .inl (cI, 512, .inl eL)), (mE, .inl (cI, 2600, .inl eE)), (mW, .inl (cI, 300, .inl eW)), (mO, .inl (cI, 300, .inl eO)), (mS, .inl (cI, 21, .inl eS)), (mX, .inl (cI, 6300, .inl eX)), (m1, .inl (cI, 6, .inl e1)), (m2, .inl (cI, 6, .inl e2)), (x1, .inl (cI, 300, .inl ec1)), (x2, .inl (cI, 300, .inl ec2)), (x3, .inl (cI, 300, .inl ec3))] (fun _ => True) 0 0 (fun (A : Nat → Prop) (r : Int32) (hh9 : Heap) => ∀ PZ9 : Prop, (∀ (ze' : Int32) (zw' : Int32) (zn' : Int32) (eY' : Nat → Int32) (zd' : Int32) (zm' : Int32) (zl' : Int32) (eE' : Nat → Int32) (zk' : Int32) (eW' : Nat → Int32) (eO' : Nat → Int32) (zp' : Int32) (zf' : Int32) (zs' : Int32) (eS' : Nat → Int32) (eX' : Nat → Int32), kPD (dC, dI) vwCl A [(oM, .inr (12, [.ref mT, .int zt, .ref mS, .ref mX, .int zp', .int zf', .ref mL, .ref mB, .ref mD, .ref m1, .ref m2, .int zh, .ref mR, .int zr, .ref x1, .ref x2, .ref x3, .int zc, .ref mH, .int zy, .int za, .int zb, .int zs', .int zq, .int zw', .int ze', .ref mY, .int zn', .ref mE, .int zm', .int zl', .ref mW, .int zk', .ref mO, .int zd', .ref y1, .ref y2, .ref y3, .ref y4, .ref mZ])), (mY, .inl (cI, 2600, .inl eY')), (mB, .inl (cS, 131072, .inl eB)), (mL, .inl (cI, 512, .inl eL)), (mE, .inl (cI, 2600, .inl eE')), (mW, .inl (cI, 300, .inl eW')), (mO, .inl (cI, 300, .inl eO')), (mS, .inl (cI, 21, .inl eS')), (mX, .inl (cI, 6300, .inl eX')), (m1, .inl (cI, 6, .inl e1)), (m2, .inl (cI, 6, .inl e2)), (x1, .inl (cI, 300, .inl ec1)), (x2, .inl (cI, 300, .inl ec2)), (x3, .inl (cI, 300, .inl ec3))] hh9 → (0 ≤ zn'.toInt ∧ zn'.toInt ≤ 2600) → (rg 0 255 eY') → (0 ≤ zm'.toInt ∧ zm'.toInt ≤ 2600) → (rg 0 65535 eE') → (0 ≤ zk'.toInt ∧ zk'.toInt ≤ 300) → (rg 0 65535 eW') → (rg 0 65535 eO') → (0 ≤ zp'.toInt ∧ zp'.toInt ≤ 20) → (0 ≤ zf'.toInt ∧ zf'.toInt ≤ 19) → (0 ≤ zs'.toInt ∧ zs'.toInt ≤ 2000000) → (rg 0 300 eS') → (rg 0 65535 eX') → (zs'.toInt ≤ zs.toInt + 1 ∧ zs.toInt ≤ zs'.toInt) → (F_st zs zs' eX eX' eS eS') → (∀ R1 R2 R3 : Nat → Int32, (1 ≤ n.toInt ∧ n.toInt ≤ 3 ∧ 1 ≤ gi.toInt ∧ gi.toInt ≤ 100000 → rGE (UR e1 e2 eL eB) (tcR zc.toInt ec1 ec2 ec3) zh.toNatClampNeg (eS 0).toInt.toNat eX n.toInt R1 R2 R3) → OR (-1) r zs zs' zp zp' zf zf' eS eS' eX eX' (mdP (UR e1 e2 eL eB) (tcR zc.toInt ec1 ec2 ec3) zh.toNatClampNeg (eS 0).toInt.toNat eX n.toInt gi.toInt R1)) → PZ9) → PZ9) := by
  refine kMi_of (cc := cX12_mend) (maxL := 12) (ret := (some .int)) (lv := [(0, .ref oM), (1, .int n), (2, .int gi)]) (by decide +kernel) rfl rfl (Nat.le_of_ble_eq_true rfl) ?_
  intro p e s m below meth c A QQ ls hx hb hr hts hml hown hlocks hA hQQ hK hX hP hD hS hl
  have hown : s.vm.findClass RX12 = some m.cls := hown
  have hcf := k_cf hx hb hml hown hts
  have in_X12 : ∀ w ∈ wsX120, w ∈ wsX12_mend := fun _ h => List.mem_cons_of_mem _ (List.mem_append_left _ (List.mem_append_left _ (List.mem_append_left _ (List.mem_append_left _ (List.mem_append_right _ (h))))))
  replace g_zt := hid g_zt
  replace g_zr := hid g_zr
  replace g_zy := hid g_zy
  replace g_za := hid g_za
  replace g_zb := hid g_zb
  replace g_zq := hid g_zq
  replace g_zn := hid g_zn
  replace g_zm := hid g_zm
  replace g_zk := hid g_zk
  have hU : okU (UR e1 e2 eL eB) := okU_R g_eB g_eL
  have hlb9 := hlb
  have z0 : (0 : Int32).toInt = 0 := rfl
  have z1 : (1 : Int32).toInt = 1 := rfl
  have zm1 : (-1 : Int32).toInt = -1 := rfl
  have cz0 := v_clamp (x := zh) (by omega)
  have gS0 := g_eS 0
  have hs3 : (eS 0).toInt.toNat ≤ 300 := by omega
  have hx9 : prg (((eS 0).toInt.toNat : Nat) : Int) 0 65535 eX := rg_prg g_eX
  refine lv_aload_n hx hb dX12_mend_0 rfl (lv_at hl 0 rfl) ?_
  refine lv_iconst (v := 0) hx hb dX12_mend_1 (by decide) ?_
  refine va_put (D := (dC, dI)) (ci := 12) (v := .int 0) (ty := .int) (C := RX12) (T := TX12) (N := 40) hx hb hts in_X12 tyX12 tyX12_ok nmX12 hown hK hP hD hS 0 rfl rfl 25 (Nat.le_of_ble_eq_true rfl) (hts (.fieldLink RX12 85 "TextMenderModel" "thrown" "I") (List.mem_of_getElem? (i := 1) rfl)) (fun _ h9 => h9) rfl (tyX12_ok 25 (Nat.le_of_ble_eq_true rfl)) rfl rfl (Nat.le_of_ble_eq_true rfl) dX12_mend_2 (kW (wn := [(oM, .inr (12, [.ref mT, .int zt, .ref mS, .ref mX, .int zp, .int zf, .ref mL, .ref mB, .ref mD, .ref m1, .ref m2, .int zh, .ref mR, .int zr, .ref x1, .ref x2, .ref x3, .int zc, .ref mH, .int zy, .int za, .int zb, .int zs, .int zq, .int zw, .int 0, .ref mY, .int zn, .ref mE, .int zm, .int zl, .ref mW, .int zk, .ref mO, .int zd, .ref y1, .ref y2, .ref y3, .ref y4, .ref mZ])), (mY, .inl (cI, 2600, .inl eY)), (mB, .inl (cS, 131072, .inl eB)), (mL, .inl (cI, 512, .inl eL)), (mE, .inl (cI, 2600, .inl eE)), (mW, .inl (cI, 300, .inl eW)), (mO, .inl (cI, 300, .inl eO)), (mS, .inl (cI, 21, .inl eS)), (mX, .inl (cI, 6300, .inl eX)), (m1, .inl (cI, 6, .inl e1)), (m2, .inl (cI, 6, .inl e2)), (x1, .inl (cI, 300, .inl ec1)), (x2, .inl (cI, 300, .inl ec2)), (x3, .inl (cI, 300, .inl ec3))]) rfl (fun H locs hPn hDn hSn => ?_))
  clear hP hD hS
  have hP := hPn
  have hD := hDn
  have hS := hSn
  clear hPn hDn hSn
  refine lv_aload_n hx hb dX12_mend_5 rfl (lv_at hl 0 rfl) ?_
  refine lv_iconst (v := (-1)) hx hb dX12_mend_6 (by decide) ?_
  refine va_put (D := (dC, dI)) (ci := 12) (v := .int (-1)) (ty := .int) (C := RX12) (T := TX12) (N := 40) hx hb hts in_X12 tyX12 tyX12_ok nmX12 hown hK hP hD hS 0 rfl rfl 24 (Nat.le_of_ble_eq_true rfl) (hts (.fieldLink RX12 55 "TextMenderModel" "where" "I") (List.mem_of_getElem? (i := 2) rfl)) (fun _ h9 => h9) rfl (tyX12_ok 24 (Nat.le_of_ble_eq_true rfl)) rfl rfl (Nat.le_of_ble_eq_true rfl) dX12_mend_7 (kW (wn := [(oM, .inr (12, [.ref mT, .int zt, .ref mS, .ref mX, .int zp, .int zf, .ref mL, .ref mB, .ref mD, .ref m1, .ref m2, .int zh, .ref mR, .int zr, .ref x1, .ref x2, .ref x3, .int zc, .ref mH, .int zy, .int za, .int zb, .int zs, .int zq, .int (-1), .int 0, .ref mY, .int zn, .ref mE, .int zm, .int zl, .ref mW, .int zk, .ref mO, .int zd, .ref y1, .ref y2, .ref y3, .ref y4, .ref mZ])), (mY, .inl (cI, 2600, .inl eY)), (mB, .inl (cS, 131072, .inl eB)), (mL, .inl (cI, 512, .inl eL)), (mE, .inl (cI, 2600, .inl eE)), (mW, .inl (cI, 300, .inl eW)), (mO, .inl (cI, 300, .inl eO)), (mS, .inl (cI, 21, .inl eS)), (mX, .inl (cI, 6300, .inl eX)), (m1, .inl (cI, 6, .inl e1)), (m2, .inl (cI, 6, .inl e2)), (x1, .inl (cI, 300, .inl ec1)), (x2, .inl (cI, 300, .inl ec2)), (x3, .inl (cI, 300, .inl ec3))]) rfl (fun H locs hPn hDn hSn => ?_))
  clear hP hD hS
  have hP := hPn
  have hD := hDn
  have hS := hSn
  clear hPn hDn hSn
  refine lv_iload_n hx hb dX12_mend_10 rfl (lv_at hl 1 rfl) ?_
  refine lv_iconst (v := 1) hx hb dX12_mend_11 (by decide) ?_
  refine lv_icmp_lt (tgt := 31) hx hb dX12_mend_12 (by decide) (fun c_1 => ?_) (fun c_1 => ?_)
  · have tc_1 : n.toInt < 1 := v_lt c_1
    refine lv_iconst (v := (-1)) hx hb dX12_mend_31 (by decide) ?_
    exact kl_i (v := (-1)) hQQ hx hb hr hlocks hS dX12_mend_32 (fun PZ9 kZ9 => kZ9 0 (-1) zn eY zd zm zl eE zk eW eO zp zf zs eS eX (⟨hP, hD⟩) (g_zn) (g_eY) (g_zm) (g_eE) (g_zk) (g_eW) (g_eO) (g_zp) (g_zf) (g_zs) (g_eS) (g_eX) (by show zs.toInt ≤ zs.toInt + 1 ∧ zs.toInt ≤ zs.toInt; omega) (by first | exact Or.inl (by omega) | exact Or.inr ⟨rfl, rfl, rfl⟩) (fun R1 R2 R3 hR => OR_n rfl (fun c fm v h => absurd h.1 (by omega))))
  · have tc_1 : 1 ≤ n.toInt := v_nlt c_1
    refine lv_iload_n hx hb dX12_mend_15 rfl (lv_at hl 1 rfl) ?_
    refine lv_iconst (v := 3) hx hb dX12_mend_16 (by decide) ?_
    refine lv_icmp_gt (tgt := 31) hx hb dX12_mend_17 (by decide) (fun c_2 => ?_) (fun c_2 => ?_)
    · have tc_2 : 3 < n.toInt := v_lt c_2
      refine lv_iconst (v := (-1)) hx hb dX12_mend_31 (by decide) ?_
      exact kl_i (v := (-1)) hQQ hx hb hr hlocks hS dX12_mend_32 (fun PZ9 kZ9 => kZ9 0 (-1) zn eY zd zm zl eE zk eW eO zp zf zs eS eX (⟨hP, hD⟩) (g_zn) (g_eY) (g_zm) (g_eE) (g_zk) (g_eW) (g_eO) (g_zp) (g_zf) (g_zs) (g_eS) (g_eX) (by show zs.toInt ≤ zs.toInt + 1 ∧ zs.toInt ≤ zs.toInt; omega) (by first | exact Or.inl (by omega) | exact Or.inr ⟨rfl, rfl, rfl⟩) (fun R1 R2 R3 hR => OR_n rfl (fun c fm v h => absurd h.1 (by omega))))
    · have tc_2 : n.toInt ≤ 3 := v_nlt c_2
      refine lv_iload_n hx hb dX12_mend_20 rfl (lv_at hl 2 rfl) ?_
      refine lv_iconst (v := 1) hx hb dX12_mend_21 (by decide) ?_
      refine lv_icmp_lt (tgt := 31) hx hb dX12_mend_22 (by decide) (fun c_3 => ?_) (fun c_3 => ?_)
      · have tc_3 : gi.toInt < 1 := v_lt c_3
        refine lv_iconst (v := (-1)) hx hb dX12_mend_31 (by decide) ?_
        exact kl_i (v := (-1)) hQQ hx hb hr hlocks hS dX12_mend_32 (fun PZ9 kZ9 => kZ9 0 (-1) zn eY zd zm zl eE zk eW eO zp zf zs eS eX (⟨hP, hD⟩) (g_zn) (g_eY) (g_zm) (g_eE) (g_zk) (g_eW) (g_eO) (g_zp) (g_zf) (g_zs) (g_eS) (g_eX) (by show zs.toInt ≤ zs.toInt + 1 ∧ zs.toInt ≤ zs.toInt; omega) (by first | exact Or.inl (by omega) | exact Or.inr ⟨rfl, rfl, rfl⟩) (fun R1 R2 R3 hR => OR_n rfl (fun c fm v h => absurd h.1 (by omega))))
      · have tc_3 : 1 ≤ gi.toInt := v_nlt c_3
        refine lv_iload_n hx hb dX12_mend_25 rfl (lv_at hl 2 rfl) ?_
        refine lv_ldc hx hb hown (hts (.constant RX12 198 (100000)) (List.mem_of_getElem? (i := 3) rfl)) dX12_mend_26 ?_
        refine lv_icmp_le (tgt := 33) hx hb dX12_mend_28 (by decide) (fun c_4 => ?_) (fun c_4 => ?_)
        · have tc_4 : gi.toInt ≤ 100000 := v_le c_4
          refine lv_iconst (v := (-1)) hx hb dX12_mend_33 (by decide) ?_
          refine lv_istore_n (lv' := [(3, .int (-1)), (0, .ref oM), (1, .int n), (2, .int gi)]) hx hb dX12_mend_34 rfl hl (by decide) rfl (fun ls hl => ?_)
          refine lv_iconst (v := 0) hx hb dX12_mend_35 (by decide) ?_
          refine lv_istore (lv' := [(4, .int 0), (3, .int (-1)), (0, .ref oM), (1, .int n), (2, .int gi)]) hx hb dX12_mend_36 hl (by decide) rfl (fun ls hl => ?_)
          refine lv_iconst (v := 0) hx hb dX12_mend_38 (by decide) ?_
          refine lv_istore (lv' := [(5, .int 0), (4, .int 0), (3, .int (-1)), (0, .ref oM), (1, .int n), (2, .int gi)]) hx hb dX12_mend_39 hl (by decide) rfl (fun ls hl => ?_)
          refine lv_iconst (v := 0) hx hb dX12_mend_41 (by decide) ?_
          refine lv_istore (lv' := [(6, .int 0), (5, .int 0), (4, .int 0), (3, .int (-1)), (0, .ref oM), (1, .int n), (2, .int gi)]) hx hb dX12_mend_42 hl (by decide) rfl (fun ls hl => ?_)
          refine lv_iconst (v := 0) hx hb dX12_mend_44 (by decide) ?_
          refine lv_istore (lv' := [(7, .int 0), (6, .int 0), (5, .int 0), (4, .int 0), (3, .int (-1)), (0, .ref oM), (1, .int n), (2, .int gi)]) hx hb dX12_mend_45 hl (by decide) rfl (fun ls hl => ?_)
          refine lv_iconst (v := 1) hx hb dX12_mend_47 (by decide) ?_
          refine lv_istore (lv' := [(8, .int 1), (7, .int 0), (6, .int 0), (5, .int 0), (4, .int 0), (3, .int (-1)), (0, .ref oM), (1, .int n), (2, .int gi)]) hx hb dX12_mend_48 hl (by decide) rfl (fun ls hl => ?_)
          have LOOP_50 : ∀ (k_50 : Nat) (be : Int32) (bn : Int32) (bc : Int32) (le_ : Int32) (nu_ : Int32) (my : Int32) (zna : Int32) (zda : Int32) (zma : Int32) (zla : Int32) (zka : Int32) (eYa : Nat → Int32) (eEa : Nat → Int32) (eWa : Nat → Int32) (eOa : Nat → Int32) (H : Heap) (locs : List Loc) (ls : Array Slot), MSd (4 - my.toInt : Int) k_50 → (-1 ≤ be.toInt ∧ be.toInt ≤ 258) → (0 ≤ bn.toInt ∧ bn.toInt ≤ 3) → (0 ≤ bc.toInt ∧ bc.toInt ≤ 216) → (0 ≤ le_.toInt ∧ le_.toInt ≤ 61000) → (0 ≤ nu_.toInt ∧ nu_.toInt ≤ 258) → (1 ≤ my.toInt ∧ my.toInt ≤ 4) → (0 ≤ zna.toInt ∧ zna.toInt ≤ 2600) → (0 ≤ zma.toInt ∧ zma.toInt ≤ 2600) → (0 ≤ zka.toInt ∧ zka.toInt ≤ 300) → (rg 0 255 eYa) → (rg 0 65535 eEa) → (rg 0 65535 eWa) → (rg 0 65535 eOa) → (be.toInt = -1 ∨ 1 ≤ zh.toInt) → (my.toInt ≤ n.toInt + 1) → (nu_.toInt ≤ roff zh.toNatClampNeg my.toNatClampNeg) → (∀ R1 R2 R3 : Nat → Int32, rGE (UR e1 e2 eL eB) (tcR zc.toInt ec1 ec2 ec3) zh.toNatClampNeg (eS 0).toInt.toNat eX n.toInt R1 R2 R3 → MIq R1 zh.toNatClampNeg n.toInt (roff zh.toNatClampNeg my.toNatClampNeg) be.toInt bn.toInt bc.toInt le_.toInt nu_.toInt) → va_P (dC, dI) vwCl [(oM, .inr (12, [.ref mT, .int zt, .ref mS, .ref mX, .int zp, .int zf, .ref mL, .ref mB, .ref mD, .ref m1, .ref m2, .int zh, .ref mR, .int zr, .ref x1, .ref x2, .ref x3, .int zc, .ref mH, .int zy, .int za, .int zb, .int zs, .int zq, .int (-1), .int 0, .ref mY, .int zna, .ref mE, .int zma, .int zla, .ref mW, .int zka, .ref mO, .int zda, .ref y1, .ref y2, .ref y3, .ref y4, .ref mZ])), (mY, .inl (cI, 2600, .inl eYa)), (mB, .inl (cS, 131072, .inl eB)), (mL, .inl (cI, 512, .inl eL)), (mE, .inl (cI, 2600, .inl eEa)), (mW, .inl (cI, 300, .inl eWa)), (mO, .inl (cI, 300, .inl eOa)), (mS, .inl (cI, 21, .inl eS)), (mX, .inl (cI, 6300, .inl eX)), (m1, .inl (cI, 6, .inl e1)), (m2, .inl (cI, 6, .inl e2)), (x1, .inl (cI, 300, .inl ec1)), (x2, .inl (cI, 300, .inl ec2)), (x3, .inl (cI, 300, .inl ec3))] H → va_D A [(oM, .inr (12, [.ref mT, .int zt, .ref mS, .ref mX, .int zp, .int zf, .ref mL, .ref mB, .ref mD, .ref m1, .ref m2, .int zh, .ref mR, .int zr, .ref x1, .ref x2, .ref x3, .int zc, .ref mH, .int zy, .int za, .int zb, .int zs, .int zq, .int (-1), .int 0, .ref mY, .int zna, .ref mE, .int zma, .int zla, .ref mW, .int zka, .ref mO, .int zda, .ref y1, .ref y2, .ref y3, .ref y4, .ref mZ])), (mY, .inl (cI, 2600, .inl eYa)), (mB, .inl (cS, 131072, .inl eB)), (mL, .inl (cI, 512, .inl eL)), (mE, .inl (cI, 2600, .inl eEa)), (mW, .inl (cI, 300, .inl eWa)), (mO, .inl (cI, 300, .inl eOa)), (mS, .inl (cI, 21, .inl eS)), (mX, .inl (cI, 6300, .inl eX)), (m1, .inl (cI, 6, .inl e1)), (m2, .inl (cI, 6, .inl e2)), (x1, .inl (cI, 300, .inl ec1)), (x2, .inl (cI, 300, .inl ec2)), (x3, .inl (cI, 300, .inl ec3))] → va_S A s.heap H locs → lv_has ls 12 [(8, .int my), (7, .int nu_), (6, .int le_), (5, .int bc), (4, .int bn), (3, .int be), (0, .ref oM), (1, .int n), (2, .int gi)] → W p l e (headSpec wsX12_mend ({ frames := 6, cells := 0, slots := 0, locals := 145 } : Room)).room s m ([.ref oM, .int n, .int gi] : List Value).toArray below meth c H locs 0 0 (MQ below QQ ([.ref oM, .int n, .int gi] : List Value).toArray s 0 0 A) (F0 m 50 ls []) := by
            clear hP hD hS hl
            intro k_50
            induction k_50 with
            | zero =>
              intro be bn bc le_ nu_ my zna zda zma zla zka eYa eEa eWa eOa H locs ls hm_50 g_be g_bn g_bc g_le_ g_nu_ g_my g_zna g_zma g_zka g_eYa g_eEa g_eWa g_eOa hbz hmn hnu hmo hP hD hS hl
              exact ms_0 hm_50
            | succ k_50 ih_50 =>
              intro be bn bc le_ nu_ my zna zda zma zla zka eYa eEa eWa eOa H locs ls hm_50 g_be g_bn g_bc g_le_ g_nu_ g_my g_zna g_zma g_zka g_eYa g_eEa g_eWa g_eOa hbz hmn hnu hmo hP hD hS hl
              refine lv_iload hx hb dX12_mend_50 (lv_at hl 0 rfl) ?_
              refine lv_iload_n hx hb dX12_mend_52 rfl (lv_at hl 7 rfl) ?_
              refine lv_icmp_gt (tgt := 159) hx hb dX12_mend_53 (by decide) (fun c_5 => ?_) (fun c_5 => ?_)
              · have tc_5 : n.toInt < my.toInt := v_lt c_5
                have cn9 := v_clamp (x := n) (by omega)
                have hPe : roff zh.toNatClampNeg my.toNatClampNeg = roff zh.toNatClampNeg (n.toNatClampNeg + 1) := by rw [ix_eq (x := my) (N := n.toNatClampNeg + 1) (by omega)]
                refine lv_iload_n hx hb dX12_mend_159 rfl (lv_at hl 5 rfl) ?_
                refine lv_iconst (v := (-1)) hx hb dX12_mend_160 (by decide) ?_
                refine lv_icmp_eq (tgt := 186) hx hb dX12_mend_161 (by decide) (fun c_6 => ?_) (fun c_6 => ?_)
                · have tc_6 : be.toInt = (-1) := v_eq c_6
                  refine lv_iconst (v := (-1)) hx hb dX12_mend_186 (by decide) ?_
                  exact kl_i (v := (-1)) hQQ hx hb hr hlocks hS dX12_mend_187 (fun PZ9 kZ9 => kZ9 0 (-1) zna eYa zda zma zla eEa zka eWa eOa zp zf zs eS eX (⟨hP, hD⟩) (g_zna) (g_eYa) (g_zma) (g_eEa) (g_zka) (g_eWa) (g_eOa) (g_zp) (g_zf) (g_zs) (g_eS) (g_eX) (by show zs.toInt ≤ zs.toInt + 1 ∧ zs.toInt ≤ zs.toInt; omega) (by first | exact Or.inl (by omega) | exact Or.inr ⟨rfl, rfl, rfl⟩) (fun R1 R2 R3 hR9 => OR_n rfl (mi_none (hR9 (by omega)) (hmo R1 R2 R3 (hR9 (by omega))) (N := n.toNatClampNeg) (by omega) (by omega) hPe (by omega))))
                · have tc_6 : ¬ be.toInt = (-1) := v_ne c_6
                  refine lv_aload_n hx hb dX12_mend_164 rfl (lv_at hl 6 rfl) ?_
                  refine lv_aload_n hx hb dX12_mend_165 rfl (lv_at hl 6 rfl) ?_
                  refine va_get (D := (dC, dI)) (ci := 12) (v := .ref mX) (C := RX12) (T := TX12) (N := 40) hx hb hts in_X12 hown hK hP 0 rfl rfl 3 (Nat.le_of_ble_eq_true rfl) (hts (.fieldLink RX12 16 "TextMenderModel" "texts" "[I") (List.mem_of_getElem? (i := 7) rfl)) (fun _ h9 => h9) rfl dX12_mend_166 ?_
                  refine lv_iconst (v := 0) hx hb dX12_mend_169 (by decide) ?_
                  refine lv_aload_n hx hb dX12_mend_170 rfl (lv_at hl 6 rfl) ?_
                  refine va_get (D := (dC, dI)) (ci := 12) (v := .ref mS) (C := RX12) (T := TX12) (N := 40) hx hb hts in_X12 hown hK hP 0 rfl rfl 2 (Nat.le_of_ble_eq_true rfl) (hts (.fieldLink RX12 13 "TextMenderModel" "sizes" "[I") (List.mem_of_getElem? (i := 8) rfl)) (fun _ h9 => h9) rfl dX12_mend_171 ?_
                  refine lv_iconst (v := 0) hx hb dX12_mend_174 (by decide) ?_
                  refine va_iald hx hb hK hP 7 0 rfl rfl (by unfold vp_in; decide) dX12_mend_175 ?_
                  refine lv_topi (fun x_7 ex_7 => ?_)
                  have tx_7 : 0 ≤ x_7.toInt ∧ x_7.toInt ≤ 300 := rg_at g_eS ex_7
                  have hs9 : x_7.toInt = (eS 0).toInt := by rw [ex_7]; rfl
                  refine kV_i (rest := []) (q0 := 0) (ci := 12) hcf (f_X12_costOf_ l dC dI cI cS H.size oM mX mT mS mX mL mB mD m1 m2 mR x1 x2 x3 mH mY mE mW mO y1 y2 y3 y4 mZ 6300 zt zp zf zh zr zc zy za zb zs zq (-1) 0 zna zma zla zka zda ec1 ec2 ec3 eX 0 x_7 (g_zt) (g_zp) (g_zf) (g_zh) (g_zr) (g_zc) (g_zy) (g_za) (g_zb) (g_zs) (g_zq) (g_zna) (g_zma) (g_zka) (by decide) (v_rr tx_7 (by decide) (by decide)) (by omega) (by omega) (hV) (prg_of g_eX)) kc_X12_costOf_ gX12_mend_X12_costOf_ rfl rfl rfl ⟨Nat.le_of_ble_eq_true rfl, Nat.le_of_ble_eq_true rfl⟩ kX_t hK hP hD hS hA ([0, 2, 3, 4, 1].filterMap (fun j => (posT mk_175 0)[j]?)) (posF mk_175 0) (kCp (ws := [(oM, .inr (12, [.ref mT, .int zt, .ref mS, .ref mX, .int zp, .int zf, .ref mL, .ref mB, .ref mD, .ref m1, .ref m2, .int zh, .ref mR, .int zr, .ref x1, .ref x2, .ref x3, .int zc, .ref mH, .int zy, .int za, .int zb, .int zs, .int zq, .int (-1), .int 0, .ref mY, .int zna, .ref mE, .int zma, .int zla, .ref mW, .int zka, .ref mO, .int zda, .ref y1, .ref y2, .ref y3, .ref y4, .ref mZ])), (mX, .inl (cI, 6300, .inl eX)), (x1, .inl (cI, 300, .inl ec1)), (x2, .inl (cI, 300, .inl ec2)), (x3, .inl (cI, 300, .inl ec3))]) (kC_of mk_175 rfl rfl) rfl) (by decide +kernel) rfl rfl rfl hl rfl (Nat.le_of_ble_eq_true rfl) dX12_mend_176 ⟨Nat.le_of_ble_eq_true rfl, Nat.le_of_ble_eq_true rfl⟩ (fun r_8 H locs hB hJ hSn => ?_)
                  refine hB _ (fun hPD9 hf8_0 hf8_1 => ?_)
                  clear hB
                  obtain ⟨hPn, hDn⟩ := kJm (m := mk_175) hJ rfl hPD9.1 hPD9.2 [0, 4, 1, 2, 3] (by decide +kernel) (ws := [(oM, .inr (12, [.ref mT, .int zt, .ref mS, .ref mX, .int zp, .int zf, .ref mL, .ref mB, .ref mD, .ref m1, .ref m2, .int zh, .ref mR, .int zr, .ref x1, .ref x2, .ref x3, .int zc, .ref mH, .int zy, .int za, .int zb, .int zs, .int zq, .int (-1), .int 0, .ref mY, .int zna, .ref mE, .int zma, .int zla, .ref mW, .int zka, .ref mO, .int zda, .ref y1, .ref y2, .ref y3, .ref y4, .ref mZ])), (mX, .inl (cI, 6300, .inl eX)), (x1, .inl (cI, 300, .inl ec1)), (x2, .inl (cI, 300, .inl ec2)), (x3, .inl (cI, 300, .inl ec3))]) rfl (wn := [(oM, .inr (12, [.ref mT, .int zt, .ref mS, .ref mX, .int zp, .int zf, .ref mL, .ref mB, .ref mD, .ref m1, .ref m2, .int zh, .ref mR, .int zr, .ref x1, .ref x2, .ref x3, .int zc, .ref mH, .int zy, .int za, .int zb, .int zs, .int zq, .int (-1), .int 0, .ref mY, .int zna, .ref mE, .int zma, .int zla, .ref mW, .int zka, .ref mO, .int zda, .ref y1, .ref y2, .ref y3, .ref y4, .ref mZ])), (mY, .inl (cI, 2600, .inl eYa)), (mB, .inl (cS, 131072, .inl eB)), (mL, .inl (cI, 512, .inl eL)), (mE, .inl (cI, 2600, .inl eEa)), (mW, .inl (cI, 300, .inl eWa)), (mO, .inl (cI, 300, .inl eOa)), (mS, .inl (cI, 21, .inl eS)), (mX, .inl (cI, 6300, .inl eX)), (m1, .inl (cI, 6, .inl e1)), (m2, .inl (cI, 6, .inl e2)), (x1, .inl (cI, 300, .inl ec1)), (x2, .inl (cI, 300, .inl ec2)), (x3, .inl (cI, 300, .inl ec3))]) rfl
                  clear hP hD hS hJ hPD9
                  have hP := hPn
                  have hD := hDn
                  have hS := hSn
                  clear hPn hDn hSn
                  refine lv_iload hx hb dX12_mend_179 (lv_at hl 2 rfl) ?_
                  refine lv_isub hx hb dX12_mend_181 ?_
                  refine lv_topi (fun x_9 ex_9 => ?_)
                  have tx_9 : x_9.toInt = r_8.toInt - le_.toInt := v_subR ex_9 hf8_0 g_le_ (by decide) (by decide)
                  refine lv_iload_n hx hb dX12_mend_182 rfl (lv_at hl 8 rfl) ?_
                  refine lv_icmp_ge (tgt := 188) hx hb dX12_mend_183 (by decide) (fun c_10 => ?_) (fun c_10 => ?_)
                  · have tc_10 : gi.toInt ≤ x_9.toInt := v_le c_10
                    refine lv_aload_n hx hb dX12_mend_188 rfl (lv_at hl 6 rfl) ?_
                    refine lv_iload hx hb dX12_mend_189 (lv_at hl 3 rfl) ?_
                    refine lv_iload hx hb dX12_mend_191 (lv_at hl 4 rfl) ?_
                    refine kV_i (rest := []) (q0 := 0) (ci := 12) hcf (f_X12_makes l dC dI cI cS H.size oM mT mS mX mL mB mD m1 m2 mR x1 x2 x3 mH mY mE mW mO y1 y2 y3 y4 mZ zt zp zf zh zr zc zy za zb zs zq (-1) 0 zna zma zla zka zda eYa eB eL eEa eWa eOa eS eX e1 e2 bc bn (g_zt) (g_zp) (g_zf) (g_zh) (g_zr) (g_zc) (g_zy) (g_za) (g_zb) (g_zs) (g_zq) (g_zna) (g_zma) (g_zka) (g_eYa) (g_eB) (g_eL) (g_eEa) (g_eWa) (g_eOa) (g_eS) (g_eX) (g_e1) (g_e2) (v_rr g_bc (by decide) (by decide)) (g_bn) (by omega) (hxl) (hlb) (hlz)) kc_X12_makes gX12_mend_X12_makes rfl rfl rfl ⟨Nat.le_of_ble_eq_true rfl, Nat.le_of_ble_eq_true rfl⟩ kX_t hK hP hD hS hA (posT mk_176 0) (posF mk_176 0) (kC_of mk_176 rfl rfl) (by decide +kernel) rfl rfl rfl hl rfl (Nat.le_of_ble_eq_true rfl) dX12_mend_193 ⟨Nat.le_of_ble_eq_true rfl, Nat.le_of_ble_eq_true rfl⟩ (fun r_11 H locs hB hJ hSn => ?_)
                    refine hB _ (fun zn_11 eY_11 zd_11 zm_11 zl_11 eE_11 zk_11 eW_11 eO_11 hPD9 hf11_0 hf11_1 hf11_2 hf11_3 hf11_4 hf11_5 hf11_6 hf11_7 hf11_8 => ?_)
                    clear hB
                    obtain ⟨hPn, hDn⟩ := kJi (m := mk_176) hJ rfl hPD9.1 hPD9.2 (wn := [(oM, .inr (12, [.ref mT, .int zt, .ref mS, .ref mX, .int zp, .int zf, .ref mL, .ref mB, .ref mD, .ref m1, .ref m2, .int zh, .ref mR, .int zr, .ref x1, .ref x2, .ref x3, .int zc, .ref mH, .int zy, .int za, .int zb, .int zs, .int zq, .int (-1), .int 0, .ref mY, .int zn_11, .ref mE, .int zm_11, .int zl_11, .ref mW, .int zk_11, .ref mO, .int zd_11, .ref y1, .ref y2, .ref y3, .ref y4, .ref mZ])), (mY, .inl (cI, 2600, .inl eY_11)), (mB, .inl (cS, 131072, .inl eB)), (mL, .inl (cI, 512, .inl eL)), (mE, .inl (cI, 2600, .inl eE_11)), (mW, .inl (cI, 300, .inl eW_11)), (mO, .inl (cI, 300, .inl eO_11)), (mS, .inl (cI, 21, .inl eS)), (mX, .inl (cI, 6300, .inl eX)), (m1, .inl (cI, 6, .inl e1)), (m2, .inl (cI, 6, .inl e2)), (x1, .inl (cI, 300, .inl ec1)), (x2, .inl (cI, 300, .inl ec2)), (x3, .inl (cI, 300, .inl ec3))]) rfl
                    clear hP hD hS hJ hPD9
                    have hP := hPn
                    have hD := hDn
                    have hS := hSn
                    clear hPn hDn hSn
                    refine lv_pop hx hb dX12_mend_196 rfl ?_
                    refine lv_aload_n hx hb dX12_mend_197 rfl (lv_at hl 6 rfl) ?_
                    refine lv_aload_n hx hb dX12_mend_198 rfl (lv_at hl 6 rfl) ?_
                    refine va_get (D := (dC, dI)) (ci := 12) (v := .ref mW) (C := RX12) (T := TX12) (N := 40) hx hb hts in_X12 hown hK hP 0 rfl rfl 31 (Nat.le_of_ble_eq_true rfl) (hts (.fieldLink RX12 64 "TextMenderModel" "work" "[I") (List.mem_of_getElem? (i := 5) rfl)) (fun _ h9 => h9) rfl dX12_mend_199 ?_
                    refine lv_aload_n hx hb dX12_mend_202 rfl (lv_at hl 6 rfl) ?_
                    refine va_get (D := (dC, dI)) (ci := 12) (v := .int zk_11) (C := RX12) (T := TX12) (N := 40) hx hb hts in_X12 hown hK hP 0 rfl rfl 32 (Nat.le_of_ble_eq_true rfl) (hts (.fieldLink RX12 135 "TextMenderModel" "workMany" "I") (List.mem_of_getElem? (i := 6) rfl)) (fun _ h9 => h9) rfl dX12_mend_203 ?_
                    refine kV_v (rest := []) (q0 := 0) (ci := 12) hcf (f_X12_bec l dC dI cI cS H.size oM mW mT mS mX mL mB mD m1 m2 mR x1 x2 x3 mH mY mE mW mO y1 y2 y3 y4 mZ 300 zt zp zf zh zr zc zy za zb zs zq (-1) 0 zn_11 zm_11 zl_11 zk_11 zd_11 eS eX eW_11 zk_11 (g_zt) (g_zp) (g_zf) (g_zh) (g_zr) (g_zc) (g_zy) (g_za) (g_zb) (g_zs) (g_zq) (hf11_0) (hf11_2) (hf11_4) (g_eS) (g_eX) (hf11_4) (by omega) (by omega) (prg_of hf11_5) (by omega)) kc_X12_become gX12_mend_X12_become rfl rfl rfl ⟨Nat.le_of_ble_eq_true rfl, Nat.le_of_ble_eq_true rfl⟩ kX_t hK hP hD hS hA ([0, 2, 3, 1].filterMap (fun j => (posT mk_177 0)[j]?)) (posF mk_177 0) (kCp (ws := [(oM, .inr (12, [.ref mT, .int zt, .ref mS, .ref mX, .int zp, .int zf, .ref mL, .ref mB, .ref mD, .ref m1, .ref m2, .int zh, .ref mR, .int zr, .ref x1, .ref x2, .ref x3, .int zc, .ref mH, .int zy, .int za, .int zb, .int zs, .int zq, .int (-1), .int 0, .ref mY, .int zn_11, .ref mE, .int zm_11, .int zl_11, .ref mW, .int zk_11, .ref mO, .int zd_11, .ref y1, .ref y2, .ref y3, .ref y4, .ref mZ])), (mW, .inl (cI, 300, .inl eW_11)), (mS, .inl (cI, 21, .inl eS)), (mX, .inl (cI, 6300, .inl eX))]) (kC_of mk_177 rfl rfl) rfl) (by decide +kernel) rfl rfl rfl hl rfl (Nat.le_of_ble_eq_true rfl) dX12_mend_206 ⟨Nat.le_of_ble_eq_true rfl, Nat.le_of_ble_eq_true rfl⟩ (fun H locs hB hJ hSn => ?_)
                    refine hB _ (fun zp_12 zf_12 zs_12 eS_12 eX_12 hPD9 hf12_0 hf12_1 hf12_2 hf12_3 hf12_4 hf12_5 hf12_6 => ?_)
                    clear hB
                    obtain ⟨hPn, hDn⟩ := kJm (m := mk_177) hJ rfl hPD9.1 hPD9.2 [0, 3, 1, 2] (by decide +kernel) (ws := [(oM, .inr (12, [.ref mT, .int zt, .ref mS, .ref mX, .int zp_12, .int zf_12, .ref mL, .ref mB, .ref mD, .ref m1, .ref m2, .int zh, .ref mR, .int zr, .ref x1, .ref x2, .ref x3, .int zc, .ref mH, .int zy, .int za, .int zb, .int zs_12, .int zq, .int (-1), .int 0, .ref mY, .int zn_11, .ref mE, .int zm_11, .int zl_11, .ref mW, .int zk_11, .ref mO, .int zd_11, .ref y1, .ref y2, .ref y3, .ref y4, .ref mZ])), (mW, .inl (cI, 300, .inl eW_11)), (mS, .inl (cI, 21, .inl eS_12)), (mX, .inl (cI, 6300, .inl eX_12))]) rfl (wn := [(oM, .inr (12, [.ref mT, .int zt, .ref mS, .ref mX, .int zp_12, .int zf_12, .ref mL, .ref mB, .ref mD, .ref m1, .ref m2, .int zh, .ref mR, .int zr, .ref x1, .ref x2, .ref x3, .int zc, .ref mH, .int zy, .int za, .int zb, .int zs_12, .int zq, .int (-1), .int 0, .ref mY, .int zn_11, .ref mE, .int zm_11, .int zl_11, .ref mW, .int zk_11, .ref mO, .int zd_11, .ref y1, .ref y2, .ref y3, .ref y4, .ref mZ])), (mY, .inl (cI, 2600, .inl eY_11)), (mB, .inl (cS, 131072, .inl eB)), (mL, .inl (cI, 512, .inl eL)), (mE, .inl (cI, 2600, .inl eE_11)), (mW, .inl (cI, 300, .inl eW_11)), (mO, .inl (cI, 300, .inl eO_11)), (mS, .inl (cI, 21, .inl eS_12)), (mX, .inl (cI, 6300, .inl eX_12)), (m1, .inl (cI, 6, .inl e1)), (m2, .inl (cI, 6, .inl e2)), (x1, .inl (cI, 300, .inl ec1)), (x2, .inl (cI, 300, .inl ec2)), (x3, .inl (cI, 300, .inl ec3))]) rfl
                    clear hP hD hS hJ hPD9
                    have hP := hPn
                    have hD := hDn
                    have hS := hSn
                    clear hPn hDn hSn
                    refine lv_iload_n hx hb dX12_mend_209 rfl (lv_at hl 5 rfl) ?_
                    exact kl_i (v := be) hQQ hx hb hr hlocks hS dX12_mend_210 (fun PZ9 kZ9 => kZ9 0 (-1) zn_11 eY_11 zd_11 zm_11 zl_11 eE_11 zk_11 eW_11 eO_11 zp_12 zf_12 zs_12 eS_12 eX_12 (⟨hP, hD⟩) (hf11_0) (hf11_1) (hf11_2) (hf11_3) (hf11_4) (hf11_5) (hf11_6) (hf12_0) (hf12_1) (hf12_2) (hf12_3) (hf12_4) (by show zs_12.toInt ≤ zs.toInt + 1 ∧ zs.toInt ≤ zs_12.toInt; omega) (by first | exact Or.inl (by omega) | exact Or.inr ⟨rfl, rfl, rfl⟩) (fun R1 R2 R3 hR9 => OR_y (mi_done (x := r_8.toInt) hU (hR9 (by omega)) (hmo R1 R2 R3 (hR9 (by omega))) (by omega) (N := n.toNatClampNeg) (by omega) (by omega) hPe (by omega) rfl hs3 hx9 (cT_s0 hf8_1 hs9 (by omega)) (by omega) (by omega) hf11_8) hf12_6 (by omega)))
                  · have tc_10 : x_9.toInt < gi.toInt := v_nle c_10
                    refine lv_iconst (v := (-1)) hx hb dX12_mend_186 (by decide) ?_
                    exact kl_i (v := (-1)) hQQ hx hb hr hlocks hS dX12_mend_187 (fun PZ9 kZ9 => kZ9 0 (-1) zna eYa zda zma zla eEa zka eWa eOa zp zf zs eS eX (⟨hP, hD⟩) (g_zna) (g_eYa) (g_zma) (g_eEa) (g_zka) (g_eWa) (g_eOa) (g_zp) (g_zf) (g_zs) (g_eS) (g_eX) (by show zs.toInt ≤ zs.toInt + 1 ∧ zs.toInt ≤ zs.toInt; omega) (by first | exact Or.inl (by omega) | exact Or.inr ⟨rfl, rfl, rfl⟩) (fun R1 R2 R3 hR9 => OR_n rfl (mi_less (x := r_8.toInt) (hR9 (by omega)) (hmo R1 R2 R3 (hR9 (by omega))) (by omega) (N := n.toNatClampNeg) (by omega) (by omega) hPe (by omega) (cT_s0 hf8_1 hs9 (by omega)) (by omega))))
              · have tc_5 : my.toInt ≤ n.toInt := v_nlt c_5
                have cmy := v_clamp (x := my) (by omega)
                have hmy3 := roff_s (z := zh.toNatClampNeg) (k := my.toNatClampNeg) (by omega) (by omega)
                refine lv_aload_n hx hb dX12_mend_56 rfl (lv_at hl 6 rfl) ?_
                refine va_get (D := (dC, dI)) (ci := 12) (v := .int zh) (C := RX12) (T := TX12) (N := 40) hx hb hts in_X12 hown hK hP 0 rfl rfl 11 (Nat.le_of_ble_eq_true rfl) (hts (.fieldLink RX12 161 "TextMenderModel" "harms" "I") (List.mem_of_getElem? (i := 4) rfl)) (fun _ h9 => h9) rfl dX12_mend_57 ?_
                refine lv_if_ne (tgt := 67) hx hb dX12_mend_60 (by decide) (fun c_13 => ?_) (fun c_13 => ?_)
                · have tc_13 : ¬ zh.toInt = 0 := v_ne c_13
                  refine lv_aload_n hx hb dX12_mend_67 rfl (lv_at hl 6 rfl) ?_
                  refine va_get (D := (dC, dI)) (ci := 12) (v := .int zh) (C := RX12) (T := TX12) (N := 40) hx hb hts in_X12 hown hK hP 0 rfl rfl 11 (Nat.le_of_ble_eq_true rfl) (hts (.fieldLink RX12 161 "TextMenderModel" "harms" "I") (List.mem_of_getElem? (i := 4) rfl)) (fun _ h9 => h9) rfl dX12_mend_68 ?_
                  refine lv_iload hx hb dX12_mend_71 (lv_at hl 0 rfl) ?_
                  refine kS_i (rest := []) hcf (f_X12_power l dC dI cI cS H.size zh my (by omega) (by omega)) kc_X12_power gX12_mend_X12_power rfl rfl ⟨Nat.le_of_ble_eq_true rfl, Nat.le_of_ble_eq_true rfl⟩ kX_t hK hP hD hS hA (posT mk_71 0) (posF mk_71 0) (kC_of mk_71 rfl rfl) (by decide +kernel) rfl hl rfl (Nat.le_of_ble_eq_true rfl) dX12_mend_73 ⟨Nat.le_of_ble_eq_true rfl, Nat.le_of_ble_eq_true rfl⟩ (fun r_14 H locs hB hJ hSn => ?_)
                  refine hB _ (fun hPD9 hf14_0 hf14_1 hf14_2 => ?_)
                  clear hB
                  obtain ⟨hPn, hDn⟩ := kJi (m := mk_71) hJ rfl hPD9.1 hPD9.2 (wn := [(oM, .inr (12, [.ref mT, .int zt, .ref mS, .ref mX, .int zp, .int zf, .ref mL, .ref mB, .ref mD, .ref m1, .ref m2, .int zh, .ref mR, .int zr, .ref x1, .ref x2, .ref x3, .int zc, .ref mH, .int zy, .int za, .int zb, .int zs, .int zq, .int (-1), .int 0, .ref mY, .int zna, .ref mE, .int zma, .int zla, .ref mW, .int zka, .ref mO, .int zda, .ref y1, .ref y2, .ref y3, .ref y4, .ref mZ])), (mY, .inl (cI, 2600, .inl eYa)), (mB, .inl (cS, 131072, .inl eB)), (mL, .inl (cI, 512, .inl eL)), (mE, .inl (cI, 2600, .inl eEa)), (mW, .inl (cI, 300, .inl eWa)), (mO, .inl (cI, 300, .inl eOa)), (mS, .inl (cI, 21, .inl eS)), (mX, .inl (cI, 6300, .inl eX)), (m1, .inl (cI, 6, .inl e1)), (m2, .inl (cI, 6, .inl e2)), (x1, .inl (cI, 300, .inl ec1)), (x2, .inl (cI, 300, .inl ec2)), (x3, .inl (cI, 300, .inl ec3))]) rfl
                  clear hP hD hS hJ hPD9
                  have hP := hPn
                  have hD := hDn
                  have hS := hSn
                  clear hPn hDn hSn
                  refine lv_istore (lv' := [(9, .int r_14), (8, .int my), (7, .int nu_), (6, .int le_), (5, .int bc), (4, .int bn), (3, .int be), (0, .ref oM), (1, .int n), (2, .int gi)]) hx hb dX12_mend_76 hl (by decide) rfl (fun ls hl => ?_)
                  refine lv_iconst (v := 0) hx hb dX12_mend_78 (by decide) ?_
                  refine lv_istore (lv' := [(10, .int 0), (9, .int r_14), (8, .int my), (7, .int nu_), (6, .int le_), (5, .int bc), (4, .int bn), (3, .int be), (0, .ref oM), (1, .int n), (2, .int gi)]) hx hb dX12_mend_79 hl (by decide) rfl (fun ls hl => ?_)
                  have LOOP_81 : ∀ (k_81 : Nat) (be2 : Int32) (bn2 : Int32) (bc2 : Int32) (le2 : Int32) (nu2 : Int32) (co : Int32) (znb : Int32) (zdb : Int32) (zmb : Int32) (zlb : Int32) (zkb : Int32) (eYb : Nat → Int32) (eEb : Nat → Int32) (eWb : Nat → Int32) (eOb : Nat → Int32) (H : Heap) (locs : List Loc) (ls : Array Slot), MSd (r_14.toInt - co.toInt : Int) k_81 → (-1 ≤ be2.toInt ∧ be2.toInt ≤ 258) → (0 ≤ bn2.toInt ∧ bn2.toInt ≤ 3) → (0 ≤ bc2.toInt ∧ bc2.toInt ≤ 216) → (0 ≤ le2.toInt ∧ le2.toInt ≤ 61000) → (0 ≤ nu2.toInt ∧ nu2.toInt ≤ 258) → (0 ≤ co.toInt ∧ co.toInt ≤ r_14.toInt) → (0 ≤ znb.toInt ∧ znb.toInt ≤ 2600) → (0 ≤ zmb.toInt ∧ zmb.toInt ≤ 2600) → (0 ≤ zkb.toInt ∧ zkb.toInt ≤ 300) → (rg 0 255 eYb) → (rg 0 65535 eEb) → (rg 0 65535 eWb) → (rg 0 65535 eOb) → (be2.toInt = -1 ∨ 1 ≤ zh.toInt) → (nu2.toInt ≤ (roff zh.toNatClampNeg my.toNatClampNeg : Int) + co.toInt) → (∀ R1 R2 R3 : Nat → Int32, rGE (UR e1 e2 eL eB) (tcR zc.toInt ec1 ec2 ec3) zh.toNatClampNeg (eS 0).toInt.toNat eX n.toInt R1 R2 R3 → MIq R1 zh.toNatClampNeg n.toInt (roff zh.toNatClampNeg my.toNatClampNeg + co.toNatClampNeg) be2.toInt bn2.toInt bc2.toInt le2.toInt nu2.toInt) → va_P (dC, dI) vwCl [(oM, .inr (12, [.ref mT, .int zt, .ref mS, .ref mX, .int zp, .int zf, .ref mL, .ref mB, .ref mD, .ref m1, .ref m2, .int zh, .ref mR, .int zr, .ref x1, .ref x2, .ref x3, .int zc, .ref mH, .int zy, .int za, .int zb, .int zs, .int zq, .int (-1), .int 0, .ref mY, .int znb, .ref mE, .int zmb, .int zlb, .ref mW, .int zkb, .ref mO, .int zdb, .ref y1, .ref y2, .ref y3, .ref y4, .ref mZ])), (mY, .inl (cI, 2600, .inl eYb)), (mB, .inl (cS, 131072, .inl eB)), (mL, .inl (cI, 512, .inl eL)), (mE, .inl (cI, 2600, .inl eEb)), (mW, .inl (cI, 300, .inl eWb)), (mO, .inl (cI, 300, .inl eOb)), (mS, .inl (cI, 21, .inl eS)), (mX, .inl (cI, 6300, .inl eX)), (m1, .inl (cI, 6, .inl e1)), (m2, .inl (cI, 6, .inl e2)), (x1, .inl (cI, 300, .inl ec1)), (x2, .inl (cI, 300, .inl ec2)), (x3, .inl (cI, 300, .inl ec3))] H → va_D A [(oM, .inr (12, [.ref mT, .int zt, .ref mS, .ref mX, .int zp, .int zf, .ref mL, .ref mB, .ref mD, .ref m1, .ref m2, .int zh, .ref mR, .int zr, .ref x1, .ref x2, .ref x3, .int zc, .ref mH, .int zy, .int za, .int zb, .int zs, .int zq, .int (-1), .int 0, .ref mY, .int znb, .ref mE, .int zmb, .int zlb, .ref mW, .int zkb, .ref mO, .int zdb, .ref y1, .ref y2, .ref y3, .ref y4, .ref mZ])), (mY, .inl (cI, 2600, .inl eYb)), (mB, .inl (cS, 131072, .inl eB)), (mL, .inl (cI, 512, .inl eL)), (mE, .inl (cI, 2600, .inl eEb)), (mW, .inl (cI, 300, .inl eWb)), (mO, .inl (cI, 300, .inl eOb)), (mS, .inl (cI, 21, .inl eS)), (mX, .inl (cI, 6300, .inl eX)), (m1, .inl (cI, 6, .inl e1)), (m2, .inl (cI, 6, .inl e2)), (x1, .inl (cI, 300, .inl ec1)), (x2, .inl (cI, 300, .inl ec2)), (x3, .inl (cI, 300, .inl ec3))] → va_S A s.heap H locs → lv_has ls 12 [(10, .int co), (9, .int r_14), (8, .int my), (7, .int nu2), (6, .int le2), (5, .int bc2), (4, .int bn2), (3, .int be2), (0, .ref oM), (1, .int n), (2, .int gi)] → W p l e (headSpec wsX12_mend ({ frames := 6, cells := 0, slots := 0, locals := 145 } : Room)).room s m ([.ref oM, .int n, .int gi] : List Value).toArray below meth c H locs 0 0 (MQ below QQ ([.ref oM, .int n, .int gi] : List Value).toArray s 0 0 A) (F0 m 81 ls []) := by
                    clear hP hD hS hl
                    try (clear g_zna g_zma g_zka hzs)
                    intro k_81
                    induction k_81 with
                    | zero =>
                      intro be2 bn2 bc2 le2 nu2 co znb zdb zmb zlb zkb eYb eEb eWb eOb H locs ls hm_81 g_be2 g_bn2 g_bc2 g_le2 g_nu2 g_co g_znb g_zmb g_zkb g_eYb g_eEb g_eWb g_eOb hbz hn2 hmi hP hD hS hl
                      exact ms_0 hm_81
                    | succ k_81 ih_81 =>
                      intro be2 bn2 bc2 le2 nu2 co znb zdb zmb zlb zkb eYb eEb eWb eOb H locs ls hm_81 g_be2 g_bn2 g_bc2 g_le2 g_nu2 g_co g_znb g_zmb g_zkb g_eYb g_eEb g_eWb g_eOb hbz hn2 hmi hP hD hS hl
                      refine lv_iload hx hb dX12_mend_81 (lv_at hl 0 rfl) ?_
                      refine lv_iload hx hb dX12_mend_83 (lv_at hl 1 rfl) ?_
                      refine lv_icmp_ge (tgt := 153) hx hb dX12_mend_85 (by decide) (fun c_15 => ?_) (fun c_15 => ?_)
                      · have tc_15 : r_14.toInt ≤ co.toInt := v_le c_15
                        obtain ⟨x_16, ex_16⟩ : ∃ y : Int32, y = my + 1 := ⟨_, rfl⟩
                        have tx_16 : x_16.toInt = my.toInt + 1 := v_addR (l2 := 1) (h2 := 1) ex_16 g_my (by decide) (by decide) (by decide)
                        refine lv_iinc (v := x_16) (lv' := [(8, .int x_16), (10, .int co), (9, .int r_14), (7, .int nu2), (6, .int le2), (5, .int bc2), (4, .int bn2), (3, .int be2), (0, .ref oM), (1, .int n), (2, .int gi)]) hx hb dX12_mend_153 hl (k := 2) rfl (by rw [ex_16]; rfl) (by decide) rfl (fun ls hl => ?_)
                        refine lv_goto (tgt := 50) hx hb dX12_mend_156 (by decide) ?_
                        exact ih_50 be2 bn2 bc2 le2 nu2 x_16 znb zdb zmb zlb zkb eYb eEb eWb eOb _ _ _ (ms_lt hm_50 (by show ((4 - x_16.toInt : Int)) < 4 - my.toInt; omega) (by show (0 : Int) < 4 - my.toInt; omega)) (g_be2) (g_bn2) (g_bc2) (g_le2) (g_nu2) (by show 1 ≤ x_16.toInt ∧ x_16.toInt ≤ 4; omega) (g_znb) (g_zmb) (g_zkb) (g_eYb) (g_eEb) (g_eWb) (g_eOb) (by show be2.toInt = -1 ∨ 1 ≤ zh.toInt; omega) (by show x_16.toInt ≤ n.toInt + 1; omega) (by rw [ix_eq (x := x_16) (N := my.toNatClampNeg + 1) (by omega), hmy3]; have cco := v_clamp (x := co) (by omega); have hal9 := hf14_2; omega) (fun R1 R2 R3 hR => MIq_e (hmi R1 R2 R3 hR) (by rw [ix_eq (x := x_16) (N := my.toNatClampNeg + 1) (by omega), hmy3]; have cco := v_clamp (x := co) (by omega); have hal9 := hf14_2; omega)) hP hD hS (lv_sub hl [0, 3, 4, 5, 6, 7, 8, 9, 10] rfl)
                      · have tc_15 : co.toInt < r_14.toInt := v_nle c_15
                        have cco := v_clamp (x := co) (by omega)
                        have hal9 := hf14_2
                        have h258 := off_258 (z := zh.toNatClampNeg) (k := my.toNatClampNeg) (by omega) (by omega) (by omega)
                        refine lv_aload_n hx hb dX12_mend_88 rfl (lv_at hl 8 rfl) ?_
                        refine lv_iload hx hb dX12_mend_89 (lv_at hl 0 rfl) ?_
                        refine lv_iload hx hb dX12_mend_91 (lv_at hl 2 rfl) ?_
                        refine kV_i (rest := []) (q0 := 0) (ci := 12) hcf (f_X12_makes l dC dI cI cS H.size oM mT mS mX mL mB mD m1 m2 mR x1 x2 x3 mH mY mE mW mO y1 y2 y3 y4 mZ zt zp zf zh zr zc zy za zb zs zq (-1) 0 znb zmb zlb zkb zdb eYb eB eL eEb eWb eOb eS eX e1 e2 co my (g_zt) (g_zp) (g_zf) (g_zh) (g_zr) (g_zc) (g_zy) (g_za) (g_zb) (g_zs) (g_zq) (g_znb) (g_zmb) (g_zkb) (g_eYb) (g_eB) (g_eL) (g_eEb) (g_eWb) (g_eOb) (g_eS) (g_eX) (g_e1) (g_e2) (by omega) (by omega) (by omega) (hxl) (hlb) (hlz)) kc_X12_makes gX12_mend_X12_makes rfl rfl rfl ⟨Nat.le_of_ble_eq_true rfl, Nat.le_of_ble_eq_true rfl⟩ kX_t hK hP hD hS hA (posT mk_176 0) (posF mk_176 0) (kC_of mk_176 rfl rfl) (by decide +kernel) rfl rfl rfl hl rfl (Nat.le_of_ble_eq_true rfl) dX12_mend_93 ⟨Nat.le_of_ble_eq_true rfl, Nat.le_of_ble_eq_true rfl⟩ (fun r_17 H locs hB hJ hSn => ?_)
                        refine hB _ (fun zn_17 eY_17 zd_17 zm_17 zl_17 eE_17 zk_17 eW_17 eO_17 hPD9 hf17_0 hf17_1 hf17_2 hf17_3 hf17_4 hf17_5 hf17_6 hf17_7 hf17_8 => ?_)
                        clear hB
                        obtain ⟨hPn, hDn⟩ := kJi (m := mk_176) hJ rfl hPD9.1 hPD9.2 (wn := [(oM, .inr (12, [.ref mT, .int zt, .ref mS, .ref mX, .int zp, .int zf, .ref mL, .ref mB, .ref mD, .ref m1, .ref m2, .int zh, .ref mR, .int zr, .ref x1, .ref x2, .ref x3, .int zc, .ref mH, .int zy, .int za, .int zb, .int zs, .int zq, .int (-1), .int 0, .ref mY, .int zn_17, .ref mE, .int zm_17, .int zl_17, .ref mW, .int zk_17, .ref mO, .int zd_17, .ref y1, .ref y2, .ref y3, .ref y4, .ref mZ])), (mY, .inl (cI, 2600, .inl eY_17)), (mB, .inl (cS, 131072, .inl eB)), (mL, .inl (cI, 512, .inl eL)), (mE, .inl (cI, 2600, .inl eE_17)), (mW, .inl (cI, 300, .inl eW_17)), (mO, .inl (cI, 300, .inl eO_17)), (mS, .inl (cI, 21, .inl eS)), (mX, .inl (cI, 6300, .inl eX)), (m1, .inl (cI, 6, .inl e1)), (m2, .inl (cI, 6, .inl e2)), (x1, .inl (cI, 300, .inl ec1)), (x2, .inl (cI, 300, .inl ec2)), (x3, .inl (cI, 300, .inl ec3))]) rfl
                        clear hP hD hS hJ hPD9
                        have hP := hPn
                        have hD := hDn
                        have hS := hSn
                        clear hPn hDn hSn
                        refine lv_if_ne (tgt := 102) hx hb dX12_mend_96 (by decide) (fun c_18 => ?_) (fun c_18 => ?_)
                        · have tc_18 : ¬ r_17.toInt = 0 := v_ne c_18
                          refine lv_aload_n hx hb dX12_mend_102 rfl (lv_at hl 8 rfl) ?_
                          refine lv_aload_n hx hb dX12_mend_103 rfl (lv_at hl 8 rfl) ?_
                          refine va_get (D := (dC, dI)) (ci := 12) (v := .ref mW) (C := RX12) (T := TX12) (N := 40) hx hb hts in_X12 hown hK hP 0 rfl rfl 31 (Nat.le_of_ble_eq_true rfl) (hts (.fieldLink RX12 64 "TextMenderModel" "work" "[I") (List.mem_of_getElem? (i := 5) rfl)) (fun _ h9 => h9) rfl dX12_mend_104 ?_
                          refine lv_iconst (v := 0) hx hb dX12_mend_107 (by decide) ?_
                          refine lv_aload_n hx hb dX12_mend_108 rfl (lv_at hl 8 rfl) ?_
                          refine va_get (D := (dC, dI)) (ci := 12) (v := .int zk_17) (C := RX12) (T := TX12) (N := 40) hx hb hts in_X12 hown hK hP 0 rfl rfl 32 (Nat.le_of_ble_eq_true rfl) (hts (.fieldLink RX12 135 "TextMenderModel" "workMany" "I") (List.mem_of_getElem? (i := 6) rfl)) (fun _ h9 => h9) rfl dX12_mend_109 ?_
                          refine kV_i (rest := []) (q0 := 0) (ci := 12) hcf (f_X12_costOf_ l dC dI cI cS H.size oM mW mT mS mX mL mB mD m1 m2 mR x1 x2 x3 mH mY mE mW mO y1 y2 y3 y4 mZ 300 zt zp zf zh zr zc zy za zb zs zq (-1) 0 zn_17 zm_17 zl_17 zk_17 zd_17 ec1 ec2 ec3 eW_17 0 zk_17 (g_zt) (g_zp) (g_zf) (g_zh) (g_zr) (g_zc) (g_zy) (g_za) (g_zb) (g_zs) (g_zq) (hf17_0) (hf17_2) (hf17_4) (by decide) (hf17_4) (by omega) (by omega) (hV) (prg_of hf17_5)) kc_X12_costOf_ gX12_mend_X12_costOf_ rfl rfl rfl ⟨Nat.le_of_ble_eq_true rfl, Nat.le_of_ble_eq_true rfl⟩ kX_t hK hP hD hS hA ([0, 2, 3, 4, 1].filterMap (fun j => (posT mk_178 0)[j]?)) (posF mk_178 0) (kCp (ws := [(oM, .inr (12, [.ref mT, .int zt, .ref mS, .ref mX, .int zp, .int zf, .ref mL, .ref mB, .ref mD, .ref m1, .ref m2, .int zh, .ref mR, .int zr, .ref x1, .ref x2, .ref x3, .int zc, .ref mH, .int zy, .int za, .int zb, .int zs, .int zq, .int (-1), .int 0, .ref mY, .int zn_17, .ref mE, .int zm_17, .int zl_17, .ref mW, .int zk_17, .ref mO, .int zd_17, .ref y1, .ref y2, .ref y3, .ref y4, .ref mZ])), (mW, .inl (cI, 300, .inl eW_17)), (x1, .inl (cI, 300, .inl ec1)), (x2, .inl (cI, 300, .inl ec2)), (x3, .inl (cI, 300, .inl ec3))]) (kC_of mk_178 rfl rfl) rfl) (by decide +kernel) rfl rfl rfl hl rfl (Nat.le_of_ble_eq_true rfl) dX12_mend_112 ⟨Nat.le_of_ble_eq_true rfl, Nat.le_of_ble_eq_true rfl⟩ (fun r_19 H locs hB hJ hSn => ?_)
                          refine hB _ (fun hPD9 hf19_0 hf19_1 => ?_)
                          clear hB
                          obtain ⟨hPn, hDn⟩ := kJm (m := mk_178) hJ rfl hPD9.1 hPD9.2 [0, 4, 1, 2, 3] (by decide +kernel) (ws := [(oM, .inr (12, [.ref mT, .int zt, .ref mS, .ref mX, .int zp, .int zf, .ref mL, .ref mB, .ref mD, .ref m1, .ref m2, .int zh, .ref mR, .int zr, .ref x1, .ref x2, .ref x3, .int zc, .ref mH, .int zy, .int za, .int zb, .int zs, .int zq, .int (-1), .int 0, .ref mY, .int zn_17, .ref mE, .int zm_17, .int zl_17, .ref mW, .int zk_17, .ref mO, .int zd_17, .ref y1, .ref y2, .ref y3, .ref y4, .ref mZ])), (mW, .inl (cI, 300, .inl eW_17)), (x1, .inl (cI, 300, .inl ec1)), (x2, .inl (cI, 300, .inl ec2)), (x3, .inl (cI, 300, .inl ec3))]) rfl (wn := [(oM, .inr (12, [.ref mT, .int zt, .ref mS, .ref mX, .int zp, .int zf, .ref mL, .ref mB, .ref mD, .ref m1, .ref m2, .int zh, .ref mR, .int zr, .ref x1, .ref x2, .ref x3, .int zc, .ref mH, .int zy, .int za, .int zb, .int zs, .int zq, .int (-1), .int 0, .ref mY, .int zn_17, .ref mE, .int zm_17, .int zl_17, .ref mW, .int zk_17, .ref mO, .int zd_17, .ref y1, .ref y2, .ref y3, .ref y4, .ref mZ])), (mY, .inl (cI, 2600, .inl eY_17)), (mB, .inl (cS, 131072, .inl eB)), (mL, .inl (cI, 512, .inl eL)), (mE, .inl (cI, 2600, .inl eE_17)), (mW, .inl (cI, 300, .inl eW_17)), (mO, .inl (cI, 300, .inl eO_17)), (mS, .inl (cI, 21, .inl eS)), (mX, .inl (cI, 6300, .inl eX)), (m1, .inl (cI, 6, .inl e1)), (m2, .inl (cI, 6, .inl e2)), (x1, .inl (cI, 300, .inl ec1)), (x2, .inl (cI, 300, .inl ec2)), (x3, .inl (cI, 300, .inl ec3))]) rfl
                          clear hP hD hS hJ hPD9
                          have hP := hPn
                          have hD := hDn
                          have hS := hSn
                          clear hPn hDn hSn
                          refine lv_istore (lv' := [(11, .int r_19), (10, .int co), (9, .int r_14), (8, .int my), (7, .int nu2), (6, .int le2), (5, .int bc2), (4, .int bn2), (3, .int be2), (0, .ref oM), (1, .int n), (2, .int gi)]) hx hb dX12_mend_115 hl (by decide) rfl (fun ls hl => ?_)
                          refine lv_iload_n hx hb dX12_mend_117 rfl (lv_at hl 8 rfl) ?_
                          refine lv_iconst (v := (-1)) hx hb dX12_mend_118 (by decide) ?_
                          refine lv_icmp_eq (tgt := 129) hx hb dX12_mend_119 (by decide) (fun c_20 => ?_) (fun c_20 => ?_)
                          · have tc_20 : be2.toInt = (-1) := v_eq c_20
                            refine lv_iload hx hb dX12_mend_129 (lv_at hl 4 rfl) ?_
                            refine lv_istore_n (lv' := [(3, .int nu2), (11, .int r_19), (10, .int co), (9, .int r_14), (8, .int my), (7, .int nu2), (6, .int le2), (5, .int bc2), (4, .int bn2), (0, .ref oM), (1, .int n), (2, .int gi)]) hx hb dX12_mend_131 rfl hl (by decide) rfl (fun ls hl => ?_)
                            refine lv_iload hx hb dX12_mend_132 (lv_at hl 4 rfl) ?_
                            refine lv_istore (lv' := [(4, .int my), (3, .int nu2), (11, .int r_19), (10, .int co), (9, .int r_14), (8, .int my), (7, .int nu2), (6, .int le2), (5, .int bc2), (0, .ref oM), (1, .int n), (2, .int gi)]) hx hb dX12_mend_134 hl (by decide) rfl (fun ls hl => ?_)
                            refine lv_iload hx hb dX12_mend_136 (lv_at hl 3 rfl) ?_
                            refine lv_istore (lv' := [(5, .int co), (4, .int my), (3, .int nu2), (11, .int r_19), (10, .int co), (9, .int r_14), (8, .int my), (7, .int nu2), (6, .int le2), (0, .ref oM), (1, .int n), (2, .int gi)]) hx hb dX12_mend_138 hl (by decide) rfl (fun ls hl => ?_)
                            refine lv_iload hx hb dX12_mend_140 (lv_at hl 3 rfl) ?_
                            refine lv_istore (lv' := [(6, .int r_19), (5, .int co), (4, .int my), (3, .int nu2), (11, .int r_19), (10, .int co), (9, .int r_14), (8, .int my), (7, .int nu2), (0, .ref oM), (1, .int n), (2, .int gi)]) hx hb dX12_mend_142 hl (by decide) rfl (fun ls hl => ?_)
                            obtain ⟨x_21, ex_21⟩ : ∃ y : Int32, y = nu2 + 1 := ⟨_, rfl⟩
                            have tx_21 : x_21.toInt = nu2.toInt + 1 := v_addR (l2 := 1) (h2 := 1) ex_21 g_nu2 (by decide) (by decide) (by decide)
                            refine lv_iinc (v := x_21) (lv' := [(7, .int x_21), (6, .int r_19), (5, .int co), (4, .int my), (3, .int nu2), (11, .int r_19), (10, .int co), (9, .int r_14), (8, .int my), (0, .ref oM), (1, .int n), (2, .int gi)]) hx hb dX12_mend_144 hl (k := 8) rfl (by rw [ex_21]; rfl) (by decide) rfl (fun ls hl => ?_)
                            obtain ⟨x_22, ex_22⟩ : ∃ y : Int32, y = co + 1 := ⟨_, rfl⟩
                            have tx_22 : x_22.toInt = co.toInt + 1 := v_add ex_22 (by show -2147483648 ≤ co.toInt + 1; omega) (by show co.toInt + 1 < 2147483648; omega)
                            refine lv_iinc (v := x_22) (lv' := [(10, .int x_22), (7, .int x_21), (6, .int r_19), (5, .int co), (4, .int my), (3, .int nu2), (11, .int r_19), (9, .int r_14), (8, .int my), (0, .ref oM), (1, .int n), (2, .int gi)]) hx hb dX12_mend_147 hl (k := 6) rfl (by rw [ex_22]; rfl) (by decide) rfl (fun ls hl => ?_)
                            refine lv_goto (tgt := 81) hx hb dX12_mend_150 (by decide) ?_
                            exact ih_81 nu2 my co r_19 x_21 x_22 zn_17 zd_17 zm_17 zl_17 zk_17 eY_17 eE_17 eW_17 eO_17 _ _ _ (ms_lt hm_81 (by show ((r_14.toInt - x_22.toInt : Int)) < r_14.toInt - co.toInt; omega) (by show (0 : Int) < r_14.toInt - co.toInt; omega)) (v_rr g_nu2 (by decide) (by decide)) (by show 0 ≤ my.toInt ∧ my.toInt ≤ 3; omega) (by show 0 ≤ co.toInt ∧ co.toInt ≤ 216; omega) (hf19_0) (by show 0 ≤ x_21.toInt ∧ x_21.toInt ≤ 258; omega) (by show 0 ≤ x_22.toInt ∧ x_22.toInt ≤ r_14.toInt; omega) (hf17_0) (hf17_2) (hf17_4) (hf17_1) (hf17_3) (hf17_5) (hf17_6) (by show nu2.toInt = -1 ∨ 1 ≤ zh.toInt; omega) (by show x_21.toInt ≤ (roff zh.toNatClampNeg my.toNatClampNeg : Int) + x_22.toInt; omega) (fun R1 R2 R3 hR => MIq_w (hmi R1 R2 R3 hR) rfl (bd_ge hU hR rfl hs3 hx9 hf17_8 (by omega) (by omega) (by omega) (by omega) (by omega) hf19_1) (by rw [ix_eq (x := x_22) (N := co.toNatClampNeg + 1) (by omega)]; omega) (by omega) (by omega) (by omega) (by omega) (by omega) (by omega) rfl (by omega) (by omega)) hP hD hS (lv_sub hl [0, 7, 8, 1, 2, 3, 4, 5, 9, 10, 11] rfl)
                          · have tc_20 : ¬ be2.toInt = (-1) := v_ne c_20
                            refine lv_iload hx hb dX12_mend_122 (lv_at hl 0 rfl) ?_
                            refine lv_iload hx hb dX12_mend_124 (lv_at hl 5 rfl) ?_
                            refine lv_icmp_ge (tgt := 144) hx hb dX12_mend_126 (by decide) (fun c_23 => ?_) (fun c_23 => ?_)
                            · have tc_23 : le2.toInt ≤ r_19.toInt := v_le c_23
                              obtain ⟨x_24, ex_24⟩ : ∃ y : Int32, y = nu2 + 1 := ⟨_, rfl⟩
                              have tx_24 : x_24.toInt = nu2.toInt + 1 := v_addR (l2 := 1) (h2 := 1) ex_24 g_nu2 (by decide) (by decide) (by decide)
                              refine lv_iinc (v := x_24) (lv' := [(7, .int x_24), (11, .int r_19), (10, .int co), (9, .int r_14), (8, .int my), (6, .int le2), (5, .int bc2), (4, .int bn2), (3, .int be2), (0, .ref oM), (1, .int n), (2, .int gi)]) hx hb dX12_mend_144 hl (k := 4) rfl (by rw [ex_24]; rfl) (by decide) rfl (fun ls hl => ?_)
                              obtain ⟨x_25, ex_25⟩ : ∃ y : Int32, y = co + 1 := ⟨_, rfl⟩
                              have tx_25 : x_25.toInt = co.toInt + 1 := v_add ex_25 (by show -2147483648 ≤ co.toInt + 1; omega) (by show co.toInt + 1 < 2147483648; omega)
                              refine lv_iinc (v := x_25) (lv' := [(10, .int x_25), (7, .int x_24), (11, .int r_19), (9, .int r_14), (8, .int my), (6, .int le2), (5, .int bc2), (4, .int bn2), (3, .int be2), (0, .ref oM), (1, .int n), (2, .int gi)]) hx hb dX12_mend_147 hl (k := 2) rfl (by rw [ex_25]; rfl) (by decide) rfl (fun ls hl => ?_)
                              refine lv_goto (tgt := 81) hx hb dX12_mend_150 (by decide) ?_
                              exact ih_81 be2 bn2 bc2 le2 x_24 x_25 zn_17 zd_17 zm_17 zl_17 zk_17 eY_17 eE_17 eW_17 eO_17 _ _ _ (ms_lt hm_81 (by show ((r_14.toInt - x_25.toInt : Int)) < r_14.toInt - co.toInt; omega) (by show (0 : Int) < r_14.toInt - co.toInt; omega)) (g_be2) (g_bn2) (g_bc2) (g_le2) (by show 0 ≤ x_24.toInt ∧ x_24.toInt ≤ 258; omega) (by show 0 ≤ x_25.toInt ∧ x_25.toInt ≤ r_14.toInt; omega) (hf17_0) (hf17_2) (hf17_4) (hf17_1) (hf17_3) (hf17_5) (hf17_6) (by show be2.toInt = -1 ∨ 1 ≤ zh.toInt; omega) (by show x_24.toInt ≤ (roff zh.toNatClampNeg my.toNatClampNeg : Int) + x_25.toInt; omega) (fun R1 R2 R3 hR => MIq_k (hmi R1 R2 R3 hR) (bd_ge hU hR rfl hs3 hx9 hf17_8 (by omega) (by omega) (by omega) (by omega) (by omega) hf19_1) (by rw [ix_eq (x := x_25) (N := co.toNatClampNeg + 1) (by omega)]; omega) (by omega) (by omega) (by omega)) hP hD hS (lv_sub hl [0, 3, 4, 1, 5, 6, 7, 8, 9, 10, 11] rfl)
                            · have tc_23 : r_19.toInt < le2.toInt := v_nle c_23
                              refine lv_iload hx hb dX12_mend_129 (lv_at hl 4 rfl) ?_
                              refine lv_istore_n (lv' := [(3, .int nu2), (11, .int r_19), (10, .int co), (9, .int r_14), (8, .int my), (7, .int nu2), (6, .int le2), (5, .int bc2), (4, .int bn2), (0, .ref oM), (1, .int n), (2, .int gi)]) hx hb dX12_mend_131 rfl hl (by decide) rfl (fun ls hl => ?_)
                              refine lv_iload hx hb dX12_mend_132 (lv_at hl 4 rfl) ?_
                              refine lv_istore (lv' := [(4, .int my), (3, .int nu2), (11, .int r_19), (10, .int co), (9, .int r_14), (8, .int my), (7, .int nu2), (6, .int le2), (5, .int bc2), (0, .ref oM), (1, .int n), (2, .int gi)]) hx hb dX12_mend_134 hl (by decide) rfl (fun ls hl => ?_)
                              refine lv_iload hx hb dX12_mend_136 (lv_at hl 3 rfl) ?_
                              refine lv_istore (lv' := [(5, .int co), (4, .int my), (3, .int nu2), (11, .int r_19), (10, .int co), (9, .int r_14), (8, .int my), (7, .int nu2), (6, .int le2), (0, .ref oM), (1, .int n), (2, .int gi)]) hx hb dX12_mend_138 hl (by decide) rfl (fun ls hl => ?_)
                              refine lv_iload hx hb dX12_mend_140 (lv_at hl 3 rfl) ?_
                              refine lv_istore (lv' := [(6, .int r_19), (5, .int co), (4, .int my), (3, .int nu2), (11, .int r_19), (10, .int co), (9, .int r_14), (8, .int my), (7, .int nu2), (0, .ref oM), (1, .int n), (2, .int gi)]) hx hb dX12_mend_142 hl (by decide) rfl (fun ls hl => ?_)
                              obtain ⟨x_26, ex_26⟩ : ∃ y : Int32, y = nu2 + 1 := ⟨_, rfl⟩
                              have tx_26 : x_26.toInt = nu2.toInt + 1 := v_addR (l2 := 1) (h2 := 1) ex_26 g_nu2 (by decide) (by decide) (by decide)
                              refine lv_iinc (v := x_26) (lv' := [(7, .int x_26), (6, .int r_19), (5, .int co), (4, .int my), (3, .int nu2), (11, .int r_19), (10, .int co), (9, .int r_14), (8, .int my), (0, .ref oM), (1, .int n), (2, .int gi)]) hx hb dX12_mend_144 hl (k := 8) rfl (by rw [ex_26]; rfl) (by decide) rfl (fun ls hl => ?_)
                              obtain ⟨x_27, ex_27⟩ : ∃ y : Int32, y = co + 1 := ⟨_, rfl⟩
                              have tx_27 : x_27.toInt = co.toInt + 1 := v_add ex_27 (by show -2147483648 ≤ co.toInt + 1; omega) (by show co.toInt + 1 < 2147483648; omega)
                              refine lv_iinc (v := x_27) (lv' := [(10, .int x_27), (7, .int x_26), (6, .int r_19), (5, .int co), (4, .int my), (3, .int nu2), (11, .int r_19), (9, .int r_14), (8, .int my), (0, .ref oM), (1, .int n), (2, .int gi)]) hx hb dX12_mend_147 hl (k := 6) rfl (by rw [ex_27]; rfl) (by decide) rfl (fun ls hl => ?_)
                              refine lv_goto (tgt := 81) hx hb dX12_mend_150 (by decide) ?_
                              exact ih_81 nu2 my co r_19 x_26 x_27 zn_17 zd_17 zm_17 zl_17 zk_17 eY_17 eE_17 eW_17 eO_17 _ _ _ (ms_lt hm_81 (by show ((r_14.toInt - x_27.toInt : Int)) < r_14.toInt - co.toInt; omega) (by show (0 : Int) < r_14.toInt - co.toInt; omega)) (v_rr g_nu2 (by decide) (by decide)) (by show 0 ≤ my.toInt ∧ my.toInt ≤ 3; omega) (by show 0 ≤ co.toInt ∧ co.toInt ≤ 216; omega) (hf19_0) (by show 0 ≤ x_26.toInt ∧ x_26.toInt ≤ 258; omega) (by show 0 ≤ x_27.toInt ∧ x_27.toInt ≤ r_14.toInt; omega) (hf17_0) (hf17_2) (hf17_4) (hf17_1) (hf17_3) (hf17_5) (hf17_6) (by show nu2.toInt = -1 ∨ 1 ≤ zh.toInt; omega) (by show x_26.toInt ≤ (roff zh.toNatClampNeg my.toNatClampNeg : Int) + x_27.toInt; omega) (fun R1 R2 R3 hR => MIq_w (hmi R1 R2 R3 hR) rfl (bd_ge hU hR rfl hs3 hx9 hf17_8 (by omega) (by omega) (by omega) (by omega) (by omega) hf19_1) (by rw [ix_eq (x := x_27) (N := co.toNatClampNeg + 1) (by omega)]; omega) (by omega) (by omega) (by omega) (by omega) (by omega) (by omega) rfl (by omega) (by omega)) hP hD hS (lv_sub hl [0, 7, 8, 1, 2, 3, 4, 5, 9, 10, 11] rfl)
                        · have tc_18 : r_17.toInt = 0 := v_eq c_18
                          refine lv_goto (tgt := 147) hx hb dX12_mend_99 (by decide) ?_
                          obtain ⟨x_28, ex_28⟩ : ∃ y : Int32, y = co + 1 := ⟨_, rfl⟩
                          have tx_28 : x_28.toInt = co.toInt + 1 := v_add ex_28 (by show -2147483648 ≤ co.toInt + 1; omega) (by show co.toInt + 1 < 2147483648; omega)
                          refine lv_iinc (v := x_28) (lv' := [(10, .int x_28), (9, .int r_14), (8, .int my), (7, .int nu2), (6, .int le2), (5, .int bc2), (4, .int bn2), (3, .int be2), (0, .ref oM), (1, .int n), (2, .int gi)]) hx hb dX12_mend_147 hl (k := 0) rfl (by rw [ex_28]; rfl) (by decide) rfl (fun ls hl => ?_)
                          refine lv_goto (tgt := 81) hx hb dX12_mend_150 (by decide) ?_
                          exact ih_81 be2 bn2 bc2 le2 nu2 x_28 zn_17 zd_17 zm_17 zl_17 zk_17 eY_17 eE_17 eW_17 eO_17 _ _ _ (ms_lt hm_81 (by show ((r_14.toInt - x_28.toInt : Int)) < r_14.toInt - co.toInt; omega) (by show (0 : Int) < r_14.toInt - co.toInt; omega)) (g_be2) (g_bn2) (g_bc2) (g_le2) (g_nu2) (by show 0 ≤ x_28.toInt ∧ x_28.toInt ≤ r_14.toInt; omega) (hf17_0) (hf17_2) (hf17_4) (hf17_1) (hf17_3) (hf17_5) (hf17_6) (by show be2.toInt = -1 ∨ 1 ≤ zh.toInt; omega) (by show nu2.toInt ≤ (roff zh.toNatClampNeg my.toNatClampNeg : Int) + x_28.toInt; omega) (fun R1 R2 R3 hR => MIq_n (hmi R1 R2 R3 hR) (bd_gn hR rfl hf17_8 (by omega) (by omega) (by omega) (by omega)) (by rw [ix_eq (x := x_28) (N := co.toNatClampNeg + 1) (by omega)]; omega)) hP hD hS (lv_sub hl [0, 1, 2, 3, 4, 5, 6, 7, 8, 9, 10] rfl)
                  exact LOOP_81 _ be bn bc le_ nu_ 0 zna zda zma zla zka eYa eEa eWa eOa _ _ _ (ms_s _) (g_be) (g_bn) (g_bc) (g_le_) (g_nu_) (by show 0 ≤ (0 : Int) ∧ (0 : Int) ≤ r_14.toInt; omega) (g_zna) (g_zma) (g_zka) (g_eYa) (g_eEa) (g_eWa) (g_eOa) (by show be.toInt = -1 ∨ 1 ≤ zh.toInt; omega) (by show nu_.toInt ≤ (roff zh.toNatClampNeg my.toNatClampNeg : Int) + 0; omega) (fun R1 R2 R3 hR => MIq_e (hmo R1 R2 R3 hR) rfl) hP hD hS (lv_sub hl [0, 1, 2, 3, 4, 5, 6, 7, 8, 9, 10] rfl)
                · have tc_13 : zh.toInt = 0 := v_eq c_13
                  refine lv_iconst (v := 0) hx hb dX12_mend_63 (by decide) ?_
                  refine lv_goto (tgt := 76) hx hb dX12_mend_64 (by decide) ?_
                  refine lv_istore (lv' := [(9, .int 0), (8, .int my), (7, .int nu_), (6, .int le_), (5, .int bc), (4, .int bn), (3, .int be), (0, .ref oM), (1, .int n), (2, .int gi)]) hx hb dX12_mend_76 hl (by decide) rfl (fun ls hl => ?_)
                  refine lv_iconst (v := 0) hx hb dX12_mend_78 (by decide) ?_
                  refine lv_istore (lv' := [(10, .int 0), (9, .int 0), (8, .int my), (7, .int nu_), (6, .int le_), (5, .int bc), (4, .int bn), (3, .int be), (0, .ref oM), (1, .int n), (2, .int gi)]) hx hb dX12_mend_79 hl (by decide) rfl (fun ls hl => ?_)
                  have LOOP_81 : ∀ (k_81 : Nat) (be2 : Int32) (bn2 : Int32) (bc2 : Int32) (le2 : Int32) (nu2 : Int32) (co : Int32) (znb : Int32) (zdb : Int32) (zmb : Int32) (zlb : Int32) (zkb : Int32) (eYb : Nat → Int32) (eEb : Nat → Int32) (eWb : Nat → Int32) (eOb : Nat → Int32) (H : Heap) (locs : List Loc) (ls : Array Slot), MSd (0 - co.toInt : Int) k_81 → (-1 ≤ be2.toInt ∧ be2.toInt ≤ 258) → (0 ≤ bn2.toInt ∧ bn2.toInt ≤ 3) → (0 ≤ bc2.toInt ∧ bc2.toInt ≤ 216) → (0 ≤ le2.toInt ∧ le2.toInt ≤ 61000) → (0 ≤ nu2.toInt ∧ nu2.toInt ≤ 258) → (0 ≤ co.toInt ∧ co.toInt ≤ 0) → (0 ≤ znb.toInt ∧ znb.toInt ≤ 2600) → (0 ≤ zmb.toInt ∧ zmb.toInt ≤ 2600) → (0 ≤ zkb.toInt ∧ zkb.toInt ≤ 300) → (rg 0 255 eYb) → (rg 0 65535 eEb) → (rg 0 65535 eWb) → (rg 0 65535 eOb) → (be2.toInt = -1 ∨ 1 ≤ zh.toInt) → (nu2.toInt ≤ (roff zh.toNatClampNeg my.toNatClampNeg : Int) + co.toInt) → (∀ R1 R2 R3 : Nat → Int32, rGE (UR e1 e2 eL eB) (tcR zc.toInt ec1 ec2 ec3) zh.toNatClampNeg (eS 0).toInt.toNat eX n.toInt R1 R2 R3 → MIq R1 zh.toNatClampNeg n.toInt (roff zh.toNatClampNeg my.toNatClampNeg + co.toNatClampNeg) be2.toInt bn2.toInt bc2.toInt le2.toInt nu2.toInt) → va_P (dC, dI) vwCl [(oM, .inr (12, [.ref mT, .int zt, .ref mS, .ref mX, .int zp, .int zf, .ref mL, .ref mB, .ref mD, .ref m1, .ref m2, .int zh, .ref mR, .int zr, .ref x1, .ref x2, .ref x3, .int zc, .ref mH, .int zy, .int za, .int zb, .int zs, .int zq, .int (-1), .int 0, .ref mY, .int znb, .ref mE, .int zmb, .int zlb, .ref mW, .int zkb, .ref mO, .int zdb, .ref y1, .ref y2, .ref y3, .ref y4, .ref mZ])), (mY, .inl (cI, 2600, .inl eYb)), (mB, .inl (cS, 131072, .inl eB)), (mL, .inl (cI, 512, .inl eL)), (mE, .inl (cI, 2600, .inl eEb)), (mW, .inl (cI, 300, .inl eWb)), (mO, .inl (cI, 300, .inl eOb)), (mS, .inl (cI, 21, .inl eS)), (mX, .inl (cI, 6300, .inl eX)), (m1, .inl (cI, 6, .inl e1)), (m2, .inl (cI, 6, .inl e2)), (x1, .inl (cI, 300, .inl ec1)), (x2, .inl (cI, 300, .inl ec2)), (x3, .inl (cI, 300, .inl ec3))] H → va_D A [(oM, .inr (12, [.ref mT, .int zt, .ref mS, .ref mX, .int zp, .int zf, .ref mL, .ref mB, .ref mD, .ref m1, .ref m2, .int zh, .ref mR, .int zr, .ref x1, .ref x2, .ref x3, .int zc, .ref mH, .int zy, .int za, .int zb, .int zs, .int zq, .int (-1), .int 0, .ref mY, .int znb, .ref mE, .int zmb, .int zlb, .ref mW, .int zkb, .ref mO, .int zdb, .ref y1, .ref y2, .ref y3, .ref y4, .ref mZ])), (mY, .inl (cI, 2600, .inl eYb)), (mB, .inl (cS, 131072, .inl eB)), (mL, .inl (cI, 512, .inl eL)), (mE, .inl (cI, 2600, .inl eEb)), (mW, .inl (cI, 300, .inl eWb)), (mO, .inl (cI, 300, .inl eOb)), (mS, .inl (cI, 21, .inl eS)), (mX, .inl (cI, 6300, .inl eX)), (m1, .inl (cI, 6, .inl e1)), (m2, .inl (cI, 6, .inl e2)), (x1, .inl (cI, 300, .inl ec1)), (x2, .inl (cI, 300, .inl ec2)), (x3, .inl (cI, 300, .inl ec3))] → va_S A s.heap H locs → lv_has ls 12 [(10, .int co), (9, .int 0), (8, .int my), (7, .int nu2), (6, .int le2), (5, .int bc2), (4, .int bn2), (3, .int be2), (0, .ref oM), (1, .int n), (2, .int gi)] → W p l e (headSpec wsX12_mend ({ frames := 6, cells := 0, slots := 0, locals := 145 } : Room)).room s m ([.ref oM, .int n, .int gi] : List Value).toArray below meth c H locs 0 0 (MQ below QQ ([.ref oM, .int n, .int gi] : List Value).toArray s 0 0 A) (F0 m 81 ls []) := by
                    clear hP hD hS hl
                    try (clear g_zna g_zma g_zka g_zs hzs)
                    intro k_81
                    induction k_81 with
                    | zero =>
                      intro be2 bn2 bc2 le2 nu2 co znb zdb zmb zlb zkb eYb eEb eWb eOb H locs ls hm_81 g_be2 g_bn2 g_bc2 g_le2 g_nu2 g_co g_znb g_zmb g_zkb g_eYb g_eEb g_eWb g_eOb hbz hn2 hmi hP hD hS hl
                      exact ms_0 hm_81
                    | succ k_81 ih_81 =>
                      intro be2 bn2 bc2 le2 nu2 co znb zdb zmb zlb zkb eYb eEb eWb eOb H locs ls hm_81 g_be2 g_bn2 g_bc2 g_le2 g_nu2 g_co g_znb g_zmb g_zkb g_eYb g_eEb g_eWb g_eOb hbz hn2 hmi hP hD hS hl
                      refine lv_iload hx hb dX12_mend_81 (lv_at hl 0 rfl) ?_
                      refine lv_iload hx hb dX12_mend_83 (lv_at hl 1 rfl) ?_
                      refine lv_icmp_ge (tgt := 153) hx hb dX12_mend_85 (by decide) (fun c_29 => ?_) (fun c_29 => by exfalso; have tc_29 : co.toInt < 0 := v_nle c_29; omega)
                      have tc_29 : 0 ≤ co.toInt := v_le c_29
                      obtain ⟨x_30, ex_30⟩ : ∃ y : Int32, y = my + 1 := ⟨_, rfl⟩
                      have tx_30 : x_30.toInt = my.toInt + 1 := v_addR (l2 := 1) (h2 := 1) ex_30 g_my (by decide) (by decide) (by decide)
                      refine lv_iinc (v := x_30) (lv' := [(8, .int x_30), (10, .int co), (9, .int 0), (7, .int nu2), (6, .int le2), (5, .int bc2), (4, .int bn2), (3, .int be2), (0, .ref oM), (1, .int n), (2, .int gi)]) hx hb dX12_mend_153 hl (k := 2) rfl (by rw [ex_30]; rfl) (by decide) rfl (fun ls hl => ?_)
                      refine lv_goto (tgt := 50) hx hb dX12_mend_156 (by decide) ?_
                      exact ih_50 be2 bn2 bc2 le2 nu2 x_30 znb zdb zmb zlb zkb eYb eEb eWb eOb _ _ _ (ms_lt hm_50 (by show ((4 - x_30.toInt : Int)) < 4 - my.toInt; omega) (by show (0 : Int) < 4 - my.toInt; omega)) (g_be2) (g_bn2) (g_bc2) (g_le2) (g_nu2) (by show 1 ≤ x_30.toInt ∧ x_30.toInt ≤ 4; omega) (g_znb) (g_zmb) (g_zkb) (g_eYb) (g_eEb) (g_eWb) (g_eOb) (by show be2.toInt = -1 ∨ 1 ≤ zh.toInt; omega) (by show x_30.toInt ≤ n.toInt + 1; omega) (by rw [ix_eq (x := x_30) (N := my.toNatClampNeg + 1) (by omega), hmy3]; have cco := v_clamp (x := co) (by omega); have hal9 := (show ((0 : Int32).toInt) = (rpz zh.toNatClampNeg my.toNatClampNeg : Int) from (by rw [ix_eq (x := zh) (N := 0) (by omega), rpz_0 (by omega)]; rfl)); omega) (fun R1 R2 R3 hR => MIq_e (hmi R1 R2 R3 hR) (by rw [ix_eq (x := x_30) (N := my.toNatClampNeg + 1) (by omega), hmy3]; have cco := v_clamp (x := co) (by omega); have hal9 := (show ((0 : Int32).toInt) = (rpz zh.toNatClampNeg my.toNatClampNeg : Int) from (by rw [ix_eq (x := zh) (N := 0) (by omega), rpz_0 (by omega)]; rfl)); omega)) hP hD hS (lv_sub hl [0, 3, 4, 5, 6, 7, 8, 9, 10] rfl)
                  exact LOOP_81 _ be bn bc le_ nu_ 0 zna zda zma zla zka eYa eEa eWa eOa _ _ _ (ms_s _) (g_be) (g_bn) (g_bc) (g_le_) (g_nu_) (by show 0 ≤ (0 : Int) ∧ (0 : Int) ≤ 0; omega) (g_zna) (g_zma) (g_zka) (g_eYa) (g_eEa) (g_eWa) (g_eOa) (by show be.toInt = -1 ∨ 1 ≤ zh.toInt; omega) (by show nu_.toInt ≤ (roff zh.toNatClampNeg my.toNatClampNeg : Int) + 0; omega) (fun R1 R2 R3 hR => MIq_e (hmo R1 R2 R3 hR) rfl) hP hD hS (lv_sub hl [0, 1, 2, 3, 4, 5, 6, 7, 8, 9, 10] rfl)
          exact LOOP_50 _ (-1) 0 0 0 0 1 zn zd zm zl zk eY eE eW eO _ _ _ (ms_s _) (by decide) (by decide) (by decide) (by decide) (by decide) (by decide) (g_zn) (g_zm) (g_zk) (g_eY) (g_eE) (g_eW) (g_eO) (Or.inl rfl) (by show 1 ≤ n.toInt + 1; omega) (by show (0 : Int) ≤ _; omega) (fun R1 R2 R3 hR => MIq_0 rfl rfl rfl) hP hD hS (lv_sub hl [0, 1, 2, 3, 4, 5, 6, 7, 8] rfl)
        · have tc_4 : 100000 < gi.toInt := v_nle c_4
          refine lv_iconst (v := (-1)) hx hb dX12_mend_31 (by decide) ?_
          exact kl_i (v := (-1)) hQQ hx hb hr hlocks hS dX12_mend_32 (fun PZ9 kZ9 => kZ9 0 (-1) zn eY zd zm zl eE zk eW eO zp zf zs eS eX (⟨hP, hD⟩) (g_zn) (g_eY) (g_zm) (g_eE) (g_zk) (g_eW) (g_eO) (g_zp) (g_zf) (g_zs) (g_eS) (g_eX) (by show zs.toInt ≤ zs.toInt + 1 ∧ zs.toInt ≤ zs.toInt; omega) (by first | exact Or.inl (by omega) | exact Or.inr ⟨rfl, rfl, rfl⟩) (fun R1 R2 R3 hR => OR_n rfl (fun c fm v h => absurd h.1 (by omega))))

end

/-! 59w.parts -/
section
/-! reading on as bytes grow; spans; the best parting -/
theorem bt_up {g g' : Nat → Int32} {n n' : Int} {k : Nat} (hg : ∀ j : Nat, (j : Int) < n → g j = g' j) (hn : n ≤ n') (hk : (k : Int) < n) : bt g' n' k = bt g n k := by
  rw [bt_in hk, bt_in (by omega), hg k hk]
theorem bt_lt {g : Nat → Int32} {n : Int} {k : Nat} (h : 0 ≤ bt g n k) : (k : Int) < n := by
  rcases bt_c g n k with w | w
  · exact w
  · omega
/-- what bytes tell a letter by, they tell it by when more follow -/
theorem Dec_up {cd : Int32} {L4 L5 g g' : Nat → Int32} {n n' : Int} {p l : Nat} {x : Int32} (hg : ∀ j : Nat, (j : Int) < n → g j = g' j) (hn : n ≤ n') (h : Dec cd L4 L5 g n p l x) : Dec cd L4 L5 g' n' p l x := by
  have hp := Dec_pos h
  obtain ⟨h0, ⟨a1, a2, a3⟩ | ⟨a1, a2⟩ | ⟨a1, a2⟩⟩ := h
  · exact ⟨by omega, Or.inl ⟨a1, by rw [← hg p h0]; exact a2, a3⟩⟩
  · refine ⟨by omega, Or.inr (Or.inl ⟨a1, ?_⟩)⟩
    have e0 := bt_up (k := p) hg hn (by omega)
    unfold DMa at a2 ⊢
    unfold DM at a2 ⊢
    rcases a2 with a2 | a2
    · have e1 := bt_up (k := p + 1) hg hn (by omega)
      rw [e0, e1]
      exact Or.inl a2
    · have e1 := bt_up (k := p + 1) hg hn (by omega)
      have e2 := bt_up (k := p + 2) hg hn (by omega)
      rw [e0, e1, e2]
      exact Or.inr a2
  · refine ⟨by omega, Or.inr (Or.inr ⟨a1, ?_⟩)⟩
    have e0 := bt_up (k := p) hg hn (by omega)
    have u : ∀ k : Nat, (k : Int) < n → bt g' n' k = bt g n k := fun k hk => bt_up hg hn hk
    unfold DNa at a2 ⊢
    unfold DN at a2 ⊢
    obtain ⟨c0, c1, c2, c3, c4, c5, c6, c7, c8, d⟩ := a2
    have b1 := bt_lt (g := g) (n := n) (k := p + 1) (by rw [c1]; decide)
    have b2 := bt_lt (g := g) (n := n) (k := p + 2) (Int.le_trans (by decide) c2)
    have b3 := bt_lt (g := g) (n := n) (k := p + 3) (Int.le_trans (by decide) c4)
    rw [e0, u _ b1, u _ b2, u _ b3]
    refine ⟨c0, c1, c2, c3, c4, c5, c6, c7, c8, ?_⟩
    rcases d with ⟨d1, d2, d3⟩ | ⟨d1, d2, d⟩
    · have b4 := bt_lt (g := g) (n := n) (k := p + 4) (by rw [d2]; decide)
      rw [u _ b4]
      exact Or.inl ⟨d1, d2, d3⟩
    · have b4 := bt_lt (g := g) (n := n) (k := p + 4) (Int.le_trans (by decide) d1)
      rw [u _ b4]
      refine Or.inr ⟨d1, d2, ?_⟩
      rcases d with ⟨e1, e2, e3⟩ | ⟨e1, e2, d⟩
      · have b5 := bt_lt (g := g) (n := n) (k := p + 5) (by rw [e2]; decide)
        rw [u _ b5]
        exact Or.inl ⟨e1, e2, e3⟩
      · have b5 := bt_lt (g := g) (n := n) (k := p + 5) (Int.le_trans (by decide) e1)
        rw [u _ b5]
        refine Or.inr ⟨e1, e2, ?_⟩
        rcases d with ⟨f1, f2, f3⟩ | ⟨f1, f2, f3, f4, f5⟩
        · have b6 := bt_lt (g := g) (n := n) (k := p + 6) (by rw [f2]; decide)
          rw [u _ b6]
          exact Or.inl ⟨f1, f2, f3⟩
        · have b6 := bt_lt (g := g) (n := n) (k := p + 6) (Int.le_trans (by decide) f1)
          have b7 := bt_lt (g := g) (n := n) (k := p + 7) (by rw [f4]; decide)
          rw [u _ b6, u _ b7]
          exact Or.inr ⟨f1, f2, f3, f4, f5⟩
theorem dl_up {cd : Int32} {L4 L5 g g' : Nat → Int32} {n n' : Int} {p : Nat} (hg : ∀ j : Nat, (j : Int) < n → g j = g' j) (hn : n ≤ n') (h : ¬ dl cd L4 L5 g n p = 0) : dl cd L4 L5 g' n' p = dl cd L4 L5 g n p ∧ dx cd L4 L5 g' n' p = dx cd L4 L5 g n p := dl_of (Dec_up hg hn (dl_ex h))
theorem psn_up {D D' : Nat → Nat} {c : Nat} (h : gdD D c) (hD : ∀ p, ¬ D p = 0 → D' p = D p) : ∀ i, i ≤ c → psn D' i = psn D i
  | 0, _ => rfl
  | i + 1, hi => by
    have a := psn_up h hD i (by omega)
    rw [psn, psn, a, hD _ (h i (by omega))]
theorem gd_up {D D' : Nat → Nat} {c : Nat} (h : gdD D c) (hD : ∀ p, ¬ D p = 0 → D' p = D p) : gdD D' c := fun i hi => by
  rw [psn_up h hD i (by omega), hD _ (h i hi)]
  exact h i hi
theorem psn_ge {D : Nat → Nat} {c : Nat} (h : gdD D c) : ∀ i, i ≤ c → i ≤ psn D i
  | 0, _ => Nat.zero_le _
  | i + 1, hi => by
    have a := psn_ge h i (by omega)
    have b := h i (by omega)
    rw [psn]; omega
/-- a Reading: so many letters were read so far -/
def RS (T : Int32 → Int32 → Int32) (re la su le : Int32) (D : Nat → Nat) (X : Nat → Int32) : Prop := ∃ c : Nat, re.toInt = psn D c ∧ gdD D c ∧ le.toInt = c ∧ la = pv (fun i => X (psn D i)) c ∧ su.toInt = cs T (fun i => X (psn D i)) c
theorem RS_0 {T : Int32 → Int32 → Int32} {re la su le : Int32} {D : Nat → Nat} {X : Nat → Int32} (h1 : re.toInt = 0) (h2 : la = 32) (h3 : su.toInt = 0) (h4 : le.toInt = 0) : RS T re la su le D X := ⟨0, by rw [h1]; rfl, fun i hi => absurd hi (Nat.not_lt_zero i), by rw [h4]; rfl, h2, by rw [h3]; rfl⟩
theorem cs_eq {T : Int32 → Int32 → Int32} {f g : Nat → Int32} : ∀ i, (∀ j, j < i → f j = g j) → cs T f i = cs T g i ∧ pv f i = pv g i
  | 0, _ => ⟨rfl, rfl⟩
  | i + 1, h => by
    obtain ⟨a1, a2⟩ := cs_eq (T := T) (f := f) (g := g) i (fun j hj => h j (by omega))
    have e := h i (by omega)
    exact ⟨by rw [cs, cs, a1, a2, e], e⟩
theorem RS_up {T : Int32 → Int32 → Int32} {re la su le : Int32} {D D' : Nat → Nat} {X X' : Nat → Int32} (h : RS T re la su le D X) (hD : ∀ p, ¬ D p = 0 → D' p = D p ∧ X' p = X p) : RS T re la su le D' X' := by
  obtain ⟨c, h1, h2, h3, h4, h5⟩ := h
  have q := psn_up h2 (fun p hp => (hD p hp).1)
  obtain ⟨e1, e2⟩ := cs_eq (T := T) (f := fun i => X (psn D i)) (g := fun i => X' (psn D' i)) c (fun j hj => by
    show X (psn D j) = X' (psn D' j)
    rw [q j (by omega), (hD _ (h2 j hj)).2])
  exact ⟨c, by rw [q c (Nat.le_refl _)]; exact h1, gd_up h2 (fun p hp => (hD p hp).1), h3, by rw [← e2]; exact h4, by rw [← e1]; exact h5⟩
def F_s8 (r re re' la la' su su' le le' : Int32) (T : Int32 → Int32 → Int32) (D : Nat → Nat) (X : Nat → Int32) : Prop := (r = 1 ∧ ¬ D re.toNatClampNeg = 0 ∧ re'.toInt = re.toInt + D re.toNatClampNeg ∧ la' = X re.toNatClampNeg ∧ su'.toInt = su.toInt + cF (T la (X re.toNatClampNeg)) la (X re.toNatClampNeg) ∧ le'.toInt = le.toInt + 1) ∨ (r = 0 ∧ D re.toNatClampNeg = 0 ∧ re' = re ∧ la' = la ∧ su' = su ∧ le' = le)
theorem RS_s {T : Int32 → Int32 → Int32} {r re re' la la' su su' le le' : Int32} {D : Nat → Nat} {X : Nat → Int32} (h : RS T re la su le D X) (hs : F_s8 r re re' la la' su su' le le' T D X) : RS T re' la' su' le' D X := by
  rcases hs with ⟨-, s1, s2, s3, s4, s5⟩ | ⟨-, -, s1, s2, s3, s4⟩
  · obtain ⟨c, h1, h2, h3, h4, h5⟩ := h
    have e : re.toNatClampNeg = psn D c := ix_eq h1
    rw [e] at s1 s2 s3 s4
    refine ⟨c + 1, by rw [psn]; omega, gdD_s h2 s1, by omega, s3, ?_⟩
    rw [cs, ← h4, ← h5]
    exact s4
  · rw [s1, s2, s3, s4]; exact h
theorem RS_b {T : Int32 → Int32 → Int32} {re la su le : Int32} {D : Nat → Nat} {X : Nat → Int32} (h : RS T re la su le D X) : 0 ≤ le.toInt ∧ le.toInt ≤ re.toInt := by
  obtain ⟨c, h1, h2, h3, h4, h5⟩ := h
  have := psn_ge h2 c (Nat.le_refl _)
  omega
/-- the letters of a span, as they are or with harm h undone -/
def SPN (U : Nat → Nat → (Nat → Int32) → Nat → (Nat → Int32) → Prop) (f : Nat → Int32) (i j : Nat) (h : Int) (c : Nat) (f' : Nat → Int32) : Prop := (h = -1 ∧ c = j - i ∧ ∀ k, k < c → f' k = f (i + k)) ∨ (0 ≤ h ∧ U h.toNat (j - i) (fun k => f (i + k)) c f')
/-- a span that may stand first in what lies behind i, with all that it costs -/
def cnd (U : Nat → Nat → (Nat → Int32) → Nat → (Nat → Int32) → Prop) (T : Int32 → Int32 → Int32) (z n : Nat) (f : Nat → Int32) (pr : Int) (C S : Nat → Int32) (i j : Nat) (h s sp : Int) : Prop := i < j ∧ j ≤ n ∧ -1 ≤ h ∧ h < z ∧ (∃ (c : Nat) (f' : Nat → Int32), SPN U f i j h c f' ∧ s = cT T c f' + (if j < n then pr + (C j).toInt else 0)) ∧ sp = 1 + (if j < n then (S j).toInt else 0)
def LE4 (c s e h c' s' e' h' : Int) : Prop := c < c' ∨ (c = c' ∧ (s < s' ∨ (s = s' ∧ (e' < e ∨ (e = e' ∧ h ≤ h')))))
/-- the best of those in A that stand first at i -/
def bst (U : Nat → Nat → (Nat → Int32) → Nat → (Nat → Int32) → Prop) (T : Int32 → Int32 → Int32) (z n : Nat) (f : Nat → Int32) (pr : Int) (C S : Nat → Int32) (A : Nat → Int → Prop) (i e : Nat) (h s sp : Int) : Prop := cnd U T z n f pr C S i e h s sp ∧ A e h ∧ ∀ (j : Nat) (h' s' sp' : Int), A j h' → cnd U T z n f pr C S i j h' s' sp' → LE4 s sp e h s' sp' j h'
/-- at each place from m on the best stands -/
def PBK (U : Nat → Nat → (Nat → Int32) → Nat → (Nat → Int32) → Prop) (T : Int32 → Int32 → Int32) (z n : Nat) (f : Nat → Int32) (pr : Int) (m : Int) (C S E H : Nat → Int32) : Prop := ∀ i : Nat, m ≤ i → i < n → 0 ≤ (E i).toInt ∧ bst U T z n f pr C S (fun _ _ => True) i (E i).toInt.toNat (H i).toInt (C i).toInt (S i).toInt
section PRT
variable {U V : Nat → Nat → (Nat → Int32) → Nat → (Nat → Int32) → Prop} {T T' : Int32 → Int32 → Int32}
theorem cnd_cg {z n : Nat} {f : Nat → Int32} {pr : Int} {C S C' S' : Nat → Int32} {i j : Nat} {h s sp : Int} (hC : ∀ k, i < k → k < n → C k = C' k ∧ S k = S' k) (a : cnd U T z n f pr C S i j h s sp) : cnd U T z n f pr C' S' i j h s sp := by
  obtain ⟨a1, a2, a3, a4, ⟨c, f', a5, a6⟩, a7⟩ := a
  by_cases w : j < n
  · obtain ⟨q1, q2⟩ := hC j a1 w
    rw [if_pos w] at a6 a7
    exact ⟨a1, a2, a3, a4, ⟨c, f', a5, by rw [if_pos w, ← q1]; exact a6⟩, by rw [if_pos w, ← q2]; exact a7⟩
  · rw [if_neg w] at a6 a7
    exact ⟨a1, a2, a3, a4, ⟨c, f', a5, by rw [if_neg w]; exact a6⟩, by rw [if_neg w]; exact a7⟩
theorem LE4_as {c s e h c' s' e' h' : Int} (a : LE4 c s e h c' s' e' h') (b : LE4 c' s' e' h' c s e h) : c = c' ∧ s = s' ∧ e = e' ∧ h = h' := by
  unfold LE4 at a b
  omega
/-- there is one best parting -/
theorem PBK_u {z n : Nat} {f : Nat → Int32} {pr m : Int} {C S E H C' S' E' H' : Nat → Int32} (a : PBK U T z n f pr m C S E H) (b : PBK U T z n f pr m C' S' E' H') : ∀ d i : Nat, i + d = n → m ≤ i → ∀ k, i ≤ k → k < n → C k = C' k ∧ S k = S' k ∧ E k = E' k ∧ H k = H' k := by
  intro d
  induction d with
  | zero => intro i h1 h2 k h3 h4; omega
  | succ d ih =>
    intro i h1 h2 k h3 h4
    have up := ih (i + 1) (by omega) (by omega)
    by_cases w : k = i
    · subst w
      obtain ⟨a0, a1, a2, a3⟩ := a k h2 (by omega)
      obtain ⟨b0, b1, b2, b3⟩ := b k h2 (by omega)
      have cg1 : ∀ q, k < q → q < n → C q = C' q ∧ S q = S' q := fun q q1 q2 => ⟨(up q (by omega) q2).1, (up q (by omega) q2).2.1⟩
      have cg2 : ∀ q, k < q → q < n → C' q = C q ∧ S' q = S q := fun q q1 q2 => ⟨(cg1 q q1 q2).1.symm, (cg1 q q1 q2).2.symm⟩
      have l1 := a3 _ _ _ _ trivial (cnd_cg cg2 b1)
      have l2 := b3 _ _ _ _ trivial (cnd_cg cg1 a1)
      obtain ⟨e1, e2, e3, e4⟩ := LE4_as l1 l2
      exact ⟨v_inj e1, v_inj e2, v_inj (by omega), v_inj e4⟩
    · exact up k (by omega) h4
/-- one more is offered: the best of those seen stays the best -/
theorem bst_add {z n : Nat} {f : Nat → Int32} {pr : Int} {C S : Nat → Int32} {A A' : Nat → Int → Prop} {i e j : Nat} {h s sp h' : Int} (b : bst U T z n f pr C S A i e h s sp) (hA : ∀ j2 h2, A' j2 h2 ↔ (A j2 h2 ∨ (j2 = j ∧ h2 = h'))) (hk : ∀ s' sp', cnd U T z n f pr C S i j h' s' sp' → LE4 s sp e h s' sp' j h') : bst U T z n f pr C S A' i e h s sp := by
  obtain ⟨b1, b2, b3⟩ := b
  refine ⟨b1, (hA _ _).mpr (Or.inl b2), fun j2 h2 s2 sp2 a2 c2 => ?_⟩
  rcases (hA _ _).mp a2 with w | ⟨w1, w2⟩
  · exact b3 _ _ _ _ w c2
  · subst w1
    subst w2
    exact hk _ _ c2
theorem bst_new {z n : Nat} {f : Nat → Int32} {pr : Int} {C S : Nat → Int32} {A A' : Nat → Int → Prop} {i j : Nat} {s' sp' h' : Int} (hA : ∀ j2 h2, A' j2 h2 ↔ (A j2 h2 ∨ (j2 = j ∧ h2 = h'))) (hc : cnd U T z n f pr C S i j h' s' sp') (hu : ∀ s2 sp2, cnd U T z n f pr C S i j h' s2 sp2 → s2 = s' ∧ sp2 = sp') (ho : (∀ j2 h2 s2 sp2, A j2 h2 → ¬ cnd U T z n f pr C S i j2 h2 s2 sp2) ∨ ∃ (e : Nat) (h s sp : Int), bst U T z n f pr C S A i e h s sp ∧ LE4 s' sp' j h' s sp e h) : bst U T z n f pr C S A' i j h' s' sp' := by
  refine ⟨hc, (hA _ _).mpr (Or.inr ⟨rfl, rfl⟩), fun j2 h2 s2 sp2 a2 c2 => ?_⟩
  rcases (hA _ _).mp a2 with w | ⟨w1, w2⟩
  · rcases ho with ho | ⟨e, h, s, sp, b, l⟩
    · exact absurd c2 (ho _ _ _ _ w)
    · have l2 := b.2.2 _ _ _ _ w c2
      unfold LE4 at l l2 ⊢
      omega
  · subst w1
    subst w2
    obtain ⟨q1, q2⟩ := hu _ _ c2
    unfold LE4
    omega
theorem SPN_u (hU : okU U) {f f1 f2 : Nat → Int32} {i j c c' : Nat} {h : Int} (hf : prg j 0 65535 f) (a : SPN U f i j h c f1) (b : SPN U f i j h c' f2) : c = c' ∧ ∀ k, k < c → f1 k = f2 k := by
  rcases a with ⟨a1, a2, a3⟩ | ⟨a1, a2⟩ <;> rcases b with ⟨b1, b2, b3⟩ | ⟨b1, b2⟩
  · exact ⟨by omega, fun k hk => (a3 k hk).trans (b3 k (by omega)).symm⟩
  · omega
  · omega
  · exact hU.1 _ _ _ _ _ _ _ (fun k hk => hf (i + k) (by omega)) a2 b2
theorem SPN_r (hU : okU U) {f f' : Nat → Int32} {i j c : Nat} {h : Int} (hj : j ≤ 300) (hf : prg j 0 65535 f) (a : SPN U f i j h c f') : c ≤ 300 ∧ prg c 0 65535 f' := by
  rcases a with ⟨a1, a2, a3⟩ | ⟨a1, a2⟩
  · exact ⟨by omega, fun k hk => by rw [a3 k (by omega)]; exact hf (i + k) (by omega)⟩
  · exact hU.2.2.1 _ _ _ _ _ (fun k hk => hf (i + k) (by omega)) a2
theorem cnd_u (hU : okU U) {z n : Nat} {f : Nat → Int32} {pr : Int} {C S : Nat → Int32} {i j : Nat} {h s sp s' sp' : Int} (hn : n ≤ 300) (hf : prg n 0 65535 f) (a : cnd U T z n f pr C S i j h s sp) (b : cnd U T z n f pr C S i j h s' sp') : s = s' ∧ sp = sp' := by
  obtain ⟨a1, a2, a3, a4, ⟨c, f1, a5, a6⟩, a7⟩ := a
  obtain ⟨b1, b2, b3, b4, ⟨c', f2, b5, b6⟩, b7⟩ := b
  have hj : prg j 0 65535 f := fun k hk => hf k (by omega)
  obtain ⟨q1, q2⟩ := SPN_u hU hj a5 b5
  have e : cT T c f1 = cT T c' f2 := cT_congr (by rw [q1]) (by omega) (fun _ _ _ _ _ _ => rfl) (SPN_r hU (by omega) hj a5).2 (fun k hk => q2 k (by omega))
  exact ⟨by rw [a6, b6, e], by rw [a7, b7]⟩
theorem SPN_iff {z n : Nat} {f g f' : Nat → Int32} {i j c : Nat} {h : Int} (hj : j ≤ n) (hh : h < z) (hf : prg n 0 65535 f) (hfg : ∀ k, k < n → f k = g k) (hV : okU V) (he : ∀ h, h < z → ∀ (n c : Nat) (f f' : Nat → Int32), prg n 0 65535 f → (U h n f c f' ↔ V h n f c f')) : SPN U f i j h c f' ↔ SPN V g i j h c f' := by
  have s1 : prg ((j - i : Nat) : Int) 0 65535 (fun k => f (i + k)) := fun k hk => hf (i + k) (by omega)
  constructor
  · rintro (⟨a1, a2, a3⟩ | ⟨a1, a2⟩)
    · exact Or.inl ⟨a1, a2, fun k hk => by rw [a3 k hk, hfg _ (by omega)]⟩
    · exact Or.inr ⟨a1, hV.2.1 _ _ _ _ _ _ (fun k hk => hfg _ (by omega)) ((he _ (by omega) _ _ _ _ s1).mp a2)⟩
  · rintro (⟨a1, a2, a3⟩ | ⟨a1, a2⟩)
    · exact Or.inl ⟨a1, a2, fun k hk => by rw [a3 k hk, hfg _ (by omega)]⟩
    · exact Or.inr ⟨a1, (he _ (by omega) _ _ _ _ s1).mpr (hV.2.1 _ _ _ _ _ _ (fun k hk => (hfg _ (by omega)).symm) a2)⟩
theorem cnd_iff (hU : okU U) {z n : Nat} {f g : Nat → Int32} {pr : Int} {C S : Nat → Int32} {i j : Nat} {h s sp : Int} (hn : n ≤ 300) (hf : prg n 0 65535 f) (hfg : ∀ k, k < n → f k = g k) (hV : okU V) (he : ∀ h, h < z → ∀ (n c : Nat) (f f' : Nat → Int32), prg n 0 65535 f → (U h n f c f' ↔ V h n f c f')) (hT : ∀ x y : Int32, 0 ≤ x.toInt → x.toInt ≤ 65535 → 0 ≤ y.toInt → y.toInt ≤ 65535 → T x y = T' x y) : cnd U T z n f pr C S i j h s sp ↔ cnd V T' z n g pr C S i j h s sp := by
  have ct : ∀ {c : Nat} {f' : Nat → Int32}, j ≤ n → SPN U f i j h c f' → cT T c f' = cT T' c f' := fun {c f'} hj a => cT_congr rfl (by omega) hT (SPN_r hU (by omega) (fun k hk => hf k (by omega)) a).2 (fun _ _ => rfl)
  constructor
  · rintro ⟨a1, a2, a3, a4, ⟨c, f', a5, a6⟩, a7⟩
    exact ⟨a1, a2, a3, a4, ⟨c, f', (SPN_iff a2 a4 hf hfg hV he).mp a5, by rw [← ct a2 a5]; exact a6⟩, a7⟩
  · rintro ⟨a1, a2, a3, a4, ⟨c, f', a5, a6⟩, a7⟩
    have a5' := (SPN_iff (U := U) a2 a4 hf hfg hV he).mpr a5
    exact ⟨a1, a2, a3, a4, ⟨c, f', a5', by rw [ct a2 a5']; exact a6⟩, a7⟩
theorem PBK_iff (hU : okU U) {z n : Nat} {f g : Nat → Int32} {pr m : Int} {C S E H : Nat → Int32} (hn : n ≤ 300) (hf : prg n 0 65535 f) (hfg : ∀ k, k < n → f k = g k) (hV : okU V) (he : ∀ h, h < z → ∀ (n c : Nat) (f f' : Nat → Int32), prg n 0 65535 f → (U h n f c f' ↔ V h n f c f')) (hT : ∀ x y : Int32, 0 ≤ x.toInt → x.toInt ≤ 65535 → 0 ≤ y.toInt → y.toInt ≤ 65535 → T x y = T' x y) : PBK U T z n f pr m C S E H ↔ PBK V T' z n g pr m C S E H := by
  constructor
  · intro a i h1 h2
    obtain ⟨a0, a1, a2, a3⟩ := a i h1 h2
    exact ⟨a0, (cnd_iff hU hn hf hfg hV he hT).mp a1, trivial, fun j h' s' sp' _ c2 => a3 j h' s' sp' trivial ((cnd_iff hU hn hf hfg hV he hT).mpr c2)⟩
  · intro a i h1 h2
    obtain ⟨a0, a1, a2, a3⟩ := a i h1 h2
    exact ⟨a0, (cnd_iff hU hn hf hfg hV he hT).mpr a1, trivial, fun j h' s' sp' _ c2 => a3 j h' s' sp' trivial ((cnd_iff hU hn hf hfg hV he hT).mp c2)⟩
/-- k spans laid one behind another: up to the place i, a letters -/
def RCH (U : Nat → Nat → (Nat → Int32) → Nat → (Nat → Int32) → Prop) (n : Nat) (f : Nat → Int32) (E H : Nat → Int32) : Nat → Nat → Nat → (Nat → Int32) → Prop
  | 0, i, a, _ => i = 0 ∧ a = 0
  | k + 1, i, a, fm => ∃ (i0 a0 m : Nat) (g : Nat → Int32), RCH U n f E H k i0 a0 fm ∧ i0 < n ∧ SPN U f i0 (E i0).toInt.toNat (H i0).toInt m g ∧ (∀ q, q < m → fm (a0 + q) = g q) ∧ i = (E i0).toInt.toNat ∧ a = a0 + m
theorem RCH_f {n : Nat} {f E H fm fm' : Nat → Int32} : ∀ (k i a : Nat), (∀ q, q < a → fm q = fm' q) → RCH U n f E H k i a fm → RCH U n f E H k i a fm'
  | 0, _, _, _, h => h
  | k + 1, i, a, e, ⟨i0, a0, m, g, h1, h2, h3, h4, h5, h6⟩ => ⟨i0, a0, m, g, RCH_f k _ _ (fun q hq => e q (by omega)) h1, h2, h3, fun q hq => by rw [← e _ (by omega)]; exact h4 q hq, h5, h6⟩
theorem RCH_u (hU : okU U) {n : Nat} {f E H fm fm' : Nat → Int32} (hf : prg n 0 65535 f) (hE : ∀ i, i < n → (E i).toInt.toNat ≤ n) : ∀ (k i a i' a' : Nat), RCH U n f E H k i a fm → RCH U n f E H k i' a' fm' → i = i' ∧ a = a' ∧ ∀ q, q < a → fm q = fm' q
  | 0, i, a, i', a', h, h' => ⟨by rw [h.1, h'.1], by rw [h.2, h'.2], fun q hq => by have := h.2; omega⟩
  | k + 1, i, a, i', a', ⟨i0, a0, m, g, h1, h2, h3, h4, h5, h6⟩, ⟨j0, b0, m', g', h1', h2', h3', h4', h5', h6'⟩ => by
    obtain ⟨e1, e2, e3⟩ := RCH_u hU hf hE k _ _ _ _ h1 h1'
    subst e1
    subst e2
    obtain ⟨q1, q2⟩ := SPN_u hU (fun j hj => hf j (by have := hE i0 h2; omega)) h3 h3'
    subst q1
    refine ⟨by rw [h5, h5'], by rw [h6, h6'], fun q hq => ?_⟩
    by_cases w : q < a0
    · exact e3 q w
    · have t1 := h4 (q - a0) (by omega)
      have t2 := h4' (q - a0) (by omega)
      have t3 : a0 + (q - a0) = q := by omega
      rw [t3] at t1 t2
      rw [t1, t2]
      exact q2 _ (by omega)
theorem RCH_cut {n : Nat} {f E H fm : Nat → Int32} {k : Nat} : ∀ (d i a : Nat), RCH U n f E H (k + d) i a fm → ∃ i0 a0, RCH U n f E H k i0 a0 fm ∧ a0 ≤ a ∧ ((d = 0 ∧ i0 = i) ∨ i0 < n)
  | 0, i, a, h => ⟨i, a, h, Nat.le_refl _, Or.inl ⟨rfl, rfl⟩⟩
  | d + 1, i, a, h => by
    have h : RCH U n f E H ((k + d) + 1) i a fm := h
    obtain ⟨i0, a0, m, g, h1, h2, h3, h4, h5, h6⟩ := h
    obtain ⟨i1, a1, q1, q2, q3⟩ := RCH_cut d _ _ h1
    refine ⟨i1, a1, q1, by omega, Or.inr ?_⟩
    rcases q3 with ⟨_, q3⟩ | q3
    · omega
    · exact q3
theorem RCH_cg {n : Nat} {f E H E' H' fm : Nat → Int32} (hE : ∀ i, i < n → E i = E' i ∧ H i = H' i) : ∀ (k i a : Nat), RCH U n f E H k i a fm → RCH U n f E' H' k i a fm
  | 0, _, _, h => h
  | k + 1, i, a, ⟨i0, a0, m, g, h1, h2, h3, h4, h5, h6⟩ => by
    obtain ⟨e1, e2⟩ := hE i0 h2
    rw [e1] at h3 h5
    rw [e2] at h3
    exact ⟨i0, a0, m, g, RCH_cg hE k _ _ h1, h2, h3, h4, h5, h6⟩
theorem RCH_iff {z n : Nat} {f g E H fm : Nat → Int32} (hE : ∀ i, i < n → (E i).toInt.toNat ≤ n ∧ (H i).toInt < z) (hf : prg n 0 65535 f) (hfg : ∀ k, k < n → f k = g k) (hV : okU V) (he : ∀ h, h < z → ∀ (n c : Nat) (f f' : Nat → Int32), prg n 0 65535 f → (U h n f c f' ↔ V h n f c f')) : ∀ (k i a : Nat), RCH U n f E H k i a fm ↔ RCH V n g E H k i a fm
  | 0, _, _ => Iff.rfl
  | k + 1, i, a => by
    constructor
    · rintro ⟨i0, a0, m, q, h1, h2, h3, h4, h5, h6⟩
      exact ⟨i0, a0, m, q, (RCH_iff hE hf hfg hV he k _ _).mp h1, h2, (SPN_iff (hE i0 h2).1 (hE i0 h2).2 hf hfg hV he).mp h3, h4, h5, h6⟩
    · rintro ⟨i0, a0, m, q, h1, h2, h3, h4, h5, h6⟩
      exact ⟨i0, a0, m, q, (RCH_iff hE hf hfg hV he k _ _).mpr h1, h2, (SPN_iff (hE i0 h2).1 (hE i0 h2).2 hf hfg hV he).mpr h3, h4, h5, h6⟩
theorem PBK_E {z n : Nat} {f : Nat → Int32} {pr : Int} {C S E H : Nat → Int32} (a : PBK U T z n f pr 0 C S E H) : ∀ i, i < n → (E i).toInt.toNat ≤ n ∧ (H i).toInt < z := fun i hi => by
  obtain ⟨_, a1, _⟩ := a i (by omega) hi
  exact ⟨a1.2.1, a1.2.2.2.1⟩
theorem RCH_end (hU : okU U) {n : Nat} {f E H fm fm' : Nat → Int32} {k k' c c' : Nat} (hf : prg n 0 65535 f) (hE : ∀ i, i < n → (E i).toInt.toNat ≤ n) (a : RCH U n f E H k n c fm) (b : RCH U n f E H k' n c' fm') : c = c' ∧ ∀ q, q < c → fm q = fm' q := by
  have e : k = k' := by
    rcases Nat.lt_trichotomy k k' with w | w | w
    · obtain ⟨d, hd⟩ : ∃ d, k' = k + d := ⟨k' - k, by omega⟩
      subst hd
      obtain ⟨i0, a0, q1, _, q3⟩ := RCH_cut d _ _ b
      have := (RCH_u hU hf hE k _ _ _ _ a q1).1
      omega
    · exact w
    · obtain ⟨d, hd⟩ : ∃ d, k = k' + d := ⟨k - k', by omega⟩
      subst hd
      obtain ⟨i0, a0, q1, _, q3⟩ := RCH_cut d _ _ a
      have := (RCH_u hU hf hE k' _ _ _ _ b q1).1
      omega
  subst e
  exact (RCH_u hU hf hE k _ _ _ _ a b).2
theorem RCH_big (hU : okU U) {n : Nat} {f E H fm fm' : Nat → Int32} {k k' i a c : Nat} (hf : prg n 0 65535 f) (hE : ∀ i, i < n → (E i).toInt.toNat ≤ n) (h : RCH U n f E H k i a fm) (ha : 300 < a) (h' : RCH U n f E H k' n c fm') : 300 < c := by
  rcases Nat.lt_or_ge k' k with w | w
  · obtain ⟨d, hd⟩ : ∃ d, k = k' + d := ⟨k - k', by omega⟩
    subst hd
    obtain ⟨i0, a0, q1, _, q3⟩ := RCH_cut d _ _ h
    have := (RCH_u hU hf hE k' _ _ _ _ h' q1).1
    omega
  · obtain ⟨d, hd⟩ : ∃ d, k' = k + d := ⟨k' - k, by omega⟩
    subst hd
    obtain ⟨i0, a0, q1, q2, _⟩ := RCH_cut d _ _ h'
    have := (RCH_u hU hf hE k _ _ _ _ h q1).2.1
    omega
/-- parts() -/
def ptP (U : Nat → Nat → (Nat → Int32) → Nat → (Nat → Int32) → Prop) (T : Int32 → Int32 → Int32) (z n : Nat) (f : Nat → Int32) (pr : Int) (c : Nat) (fm : Nat → Int32) (v : Int) : Prop := (1 ≤ n ∧ n ≤ 60 ∧ 0 ≤ pr ∧ pr ≤ 1000) ∧ ∃ C S E H : Nat → Int32, PBK U T z n f pr 0 C S E H ∧ v = (S 0).toInt ∧ c ≤ 300 ∧ ∃ k, RCH U n f E H k n c fm
theorem pt_ok (hU : okU U) {z n : Nat} {f : Nat → Int32} {pr : Int} (hf : prg n 0 65535 f) (hl : ∀ i, i < n → isLz (f i)) (hlz : ∀ (h n c : Nat) (f f' : Nat → Int32), h < z → prg n 0 65535 f → U h n f c f' → ∀ i, i < c → isLz (f' i)) : okQ (ptP U T z n f pr) := by
  rintro c fm v ⟨b0, C, S, E, H, hB, hv, hc, k, hk⟩
  have hE := PBK_E hB
  refine ⟨⟨hc, ?_⟩, ?_⟩
  · have ll : ∀ (k i a : Nat), RCH U n f E H k i a fm → ∀ q, q < a → isLz (fm q) := by
      intro k
      induction k with
      | zero => intro i a h q hq; have := h.2; omega
      | succ k ih =>
        rintro i a ⟨i0, a0, m, g, h1, h2, h3, h4, h5, h6⟩ q hq
        by_cases w : q < a0
        · exact ih _ _ h1 q w
        · have t1 := h4 (q - a0) (by omega)
          have t3 : a0 + (q - a0) = q := by omega
          rw [t3] at t1
          rw [t1]
          have e1 := (hE i0 h2).1
          rcases h3 with ⟨s1, s2, s3⟩ | ⟨s1, s2⟩
          · rw [s3 _ (by omega)]
            exact hl _ (by omega)
          · exact hlz _ _ _ _ _ (by have := (hE i0 h2).2; omega) (fun j hj => hf (i0 + j) (by omega)) s2 _ (by omega)
    exact ll k n c hk
  · rintro c' fm' v' ⟨_, C', S', E', H', hB', hv', hc', k', hk'⟩
    have u := PBK_u hB hB' n 0 (by omega) (by omega)
    have q := RCH_end hU hf (fun i hi => (hE i hi).1) hk (RCH_cg (fun i hi => ⟨(u i (by omega) hi).2.2.1.symm, (u i (by omega) hi).2.2.2.symm⟩) _ _ _ hk')
    exact ⟨q.1, by rw [hv, hv', (u 0 (by omega) (by omega)).2.1], q.2⟩
theorem pt_iff (hU : okU U) {z n : Nat} {f g : Nat → Int32} {pr : Int} (hf : prg n 0 65535 f) (hfg : ∀ k, k < n → f k = g k) (hV : okU V) (he : ∀ h, h < z → ∀ (n c : Nat) (f f' : Nat → Int32), prg n 0 65535 f → (U h n f c f' ↔ V h n f c f')) (hT : ∀ x y : Int32, 0 ≤ x.toInt → x.toInt ≤ 65535 → 0 ≤ y.toInt → y.toInt ≤ 65535 → T x y = T' x y) : ∀ c fm v, ptP U T z n f pr c fm v ↔ ptP V T' z n g pr c fm v := by
  intro c fm v
  constructor
  · rintro ⟨b0, C, S, E, H, hB, hv, hc, k, hk⟩
    exact ⟨b0, C, S, E, H, (PBK_iff hU (by omega) hf hfg hV he hT).mp hB, hv, hc, k, (RCH_iff (PBK_E hB) hf hfg hV he _ _ _).mp hk⟩
  · rintro ⟨b0, C, S, E, H, hB, hv, hc, k, hk⟩
    have hB' := (PBK_iff hU (by omega) hf hfg hV he hT).mpr hB
    exact ⟨b0, C, S, E, H, hB', hv, hc, k, (RCH_iff (PBK_E hB') hf hfg hV he _ _ _).mpr hk⟩
/-- the spans together are too long -/
theorem pt_big (hU : okU U) {z n : Nat} {f fm : Nat → Int32} {pr : Int} {C S E H : Nat → Int32} {k i a : Nat} (hf : prg n 0 65535 f) (hB : PBK U T z n f pr 0 C S E H) (h : RCH U n f E H k i a fm) (ha : 300 < a) : ∀ c fm v, ¬ ptP U T z n f pr c fm v := by
  rintro c fm' v ⟨_, C', S', E', H', hB', hv', hc', k', hk'⟩
  have u := PBK_u hB hB' n 0 (by omega) (by omega)
  have q := RCH_big hU hf (fun i hi => (PBK_E hB i hi).1) h ha (RCH_cg (fun i hi => ⟨(u i (by omega) hi).2.2.1.symm, (u i (by omega) hi).2.2.2.symm⟩) _ _ _ hk')
  omega
theorem RCH_step {n k i a m : Nat} {f E H fm fm' g : Nat → Int32} (h : RCH U n f E H k i a fm) (hi : i < n) (hs : SPN U f i (E i).toInt.toNat (H i).toInt m g) (h1 : ∀ q, q < a → fm' q = fm q) (h2 : ∀ q, q < m → fm' (a + q) = g q) : RCH U n f E H (k + 1) (E i).toInt.toNat (a + m) fm' :=
  ⟨i, a, m, g, RCH_f k _ _ (fun q hq => (h1 q hq).symm) h, hi, hs, h2, rfl, rfl⟩
end PRT
/-! parts() of the class: offers -/
def lxl (sm sp en c s e : Int) : Prop := sm < c ∨ (sm = c ∧ (sp < s ∨ (sp = s ∧ e < en)))
def F_ib (r : Int32) (sm sp en c s e : Int) : Prop := (r.toInt = 1 ∧ lxl sm sp en c s e) ∨ (r.toInt = 0 ∧ ¬ lxl sm sp en c s e)
def F_of (pr fr en h cs : Int32) (Q1 Q1' Q2 Q2' Q3 Q3' Q4 Q4' : Nat → Int32) : Prop := ∃ sm sp : Int32, sm.toInt = cs.toInt + (Q1 en.toNatClampNeg).toInt + (if 0 < (Q2 en.toNatClampNeg).toInt then pr.toInt else 0) ∧ sp.toInt = 1 + (Q2 en.toNatClampNeg).toInt ∧
  (((Q1 fr.toNatClampNeg = -1 ∨ lxl sm.toInt sp.toInt en.toInt (Q1 fr.toNatClampNeg).toInt (Q2 fr.toNatClampNeg).toInt (Q3 fr.toNatClampNeg).toInt) ∧ Q1' = upd Q1 fr.toNatClampNeg sm ∧ Q2' = upd Q2 fr.toNatClampNeg sp ∧ Q3' = upd Q3 fr.toNatClampNeg en ∧ Q4' = upd Q4 fr.toNatClampNeg h) ∨
   (¬ Q1 fr.toNatClampNeg = -1 ∧ ¬ lxl sm.toInt sp.toInt en.toInt (Q1 fr.toNatClampNeg).toInt (Q2 fr.toNatClampNeg).toInt (Q3 fr.toNatClampNeg).toInt ∧ Q1' = Q1 ∧ Q2' = Q2 ∧ Q3' = Q3 ∧ Q4' = Q4))
/-- what stands behind m is in order -/
def QOK (n m : Int) (Q1 Q2 : Nat → Int32) : Prop := ∀ j : Nat, m < j → (j : Int) ≤ n → 0 ≤ (Q1 j).toInt ∧ (Q1 j).toInt ≤ 70000 * (n - j) ∧ 0 ≤ (Q2 j).toInt ∧ (Q2 j).toInt ≤ n - j ∧ ((j : Int) < n → 1 ≤ (Q2 j).toInt)
/-- the best of those offered at i -/
def BFS (U : Nat → Nat → (Nat → Int32) → Nat → (Nat → Int32) → Prop) (T : Int32 → Int32 → Int32) (z n : Nat) (f : Nat → Int32) (pr : Int) (A : Nat → Int → Prop) (i : Nat) (Q1 Q2 Q3 Q4 : Nat → Int32) : Prop := (Q1 i = -1 ∧ ∀ (j : Nat) (h s sp : Int), A j h → ¬ cnd U T z n f pr Q1 Q2 i j h s sp) ∨ (0 ≤ (Q1 i).toInt ∧ (Q1 i).toInt ≤ 70000 * ((n : Int) - i) ∧ 1 ≤ (Q2 i).toInt ∧ (Q2 i).toInt ≤ (n : Int) - i ∧ 0 ≤ (Q3 i).toInt ∧ bst U T z n f pr Q1 Q2 A i (Q3 i).toInt.toNat (Q4 i).toInt (Q1 i).toInt (Q2 i).toInt)
section PR2
variable {U V : Nat → Nat → (Nat → Int32) → Nat → (Nat → Int32) → Prop} {T T' : Int32 → Int32 → Int32}
theorem QOK_u {n m : Int} {Q1 Q1' Q2 Q2' : Nat → Int32} {i : Nat} {a b : Int32} (h : QOK n m Q1 Q2) (hi : (i : Int) ≤ m) (e1 : Q1' = upd Q1 i a ∨ Q1' = Q1) (e2 : Q2' = upd Q2 i b ∨ Q2' = Q2) : QOK n m Q1' Q2' := by
  intro j h1 h2
  have q := h j h1 h2
  have w1 : Q1' j = Q1 j := by
    rcases e1 with e | e
    · rw [e, pk_un (by omega)]
    · rw [e]
  have w2 : Q2' j = Q2 j := by
    rcases e2 with e | e
    · rw [e, pk_un (by omega)]
    · rw [e]
  rw [w1, w2]; exact q
theorem bst_cg {z n : Nat} {f : Nat → Int32} {pr : Int} {C S C' S' : Nat → Int32} {A : Nat → Int → Prop} {i e : Nat} {h s sp : Int} (hC : ∀ k, i < k → k < n → C k = C' k ∧ S k = S' k) (a : bst U T z n f pr C S A i e h s sp) : bst U T z n f pr C' S' A i e h s sp := by
  obtain ⟨a1, a2, a3⟩ := a
  exact ⟨cnd_cg hC a1, a2, fun j h' s' sp' q c2 => a3 j h' s' sp' q (cnd_cg (fun k k1 k2 => ⟨(hC k k1 k2).1.symm, (hC k k1 k2).2.symm⟩) c2)⟩
theorem BFS_A {z n : Nat} {f : Nat → Int32} {pr : Int} {A A' : Nat → Int → Prop} {i : Nat} {Q1 Q2 Q3 Q4 : Nat → Int32} (b : BFS U T z n f pr A i Q1 Q2 Q3 Q4) (hA : ∀ (j : Nat) (h s sp : Int), cnd U T z n f pr Q1 Q2 i j h s sp → (A' j h ↔ A j h)) : BFS U T z n f pr A' i Q1 Q2 Q3 Q4 := by
  rcases b with ⟨b1, b2⟩ | ⟨b1, b2, b3, b4, b5, b6, b7, b8⟩
  · exact Or.inl ⟨b1, fun j h s sp a c => b2 j h s sp ((hA j h s sp c).mp a) c⟩
  · exact Or.inr ⟨b1, b2, b3, b4, b5, b6, (hA _ _ _ _ b6).mpr b7, fun j h s sp a c => b8 j h s sp ((hA j h s sp c).mp a) c⟩
/-- one more is offered -/
theorem BFS_off (hU : okU U) {z n : Nat} {f g : Nat → Int32} {A A' : Nat → Int → Prop} {pr fr en h cs : Int32} {c i : Nat} {Q1 Q1' Q2 Q2' Q3 Q3' Q4 Q4' : Nat → Int32} (b : BFS U T z n f pr.toInt A i Q1 Q2 Q3 Q4) (ho : F_of pr fr en h cs Q1 Q1' Q2 Q2' Q3 Q3' Q4 Q4') (hq : QOK n i Q1 Q2) (hn : n ≤ 60) (hf : prg n 0 65535 f) (ei : fr.toInt = i) (h1 : fr.toInt < en.toInt) (h2 : en.toInt ≤ n) (hh : -1 ≤ h.toInt ∧ h.toInt < z) (hs : SPN U f i en.toNatClampNeg h.toInt c g) (hc : cs.toInt = cT T c g) (hc0 : 0 ≤ cs.toInt ∧ cs.toInt ≤ 62000) (hp : 0 ≤ pr.toInt ∧ pr.toInt ≤ 1000) (hA : ∀ (j2 : Nat) (h2 : Int), A' j2 h2 ↔ (A j2 h2 ∨ (j2 = en.toNatClampNeg ∧ h2 = h.toInt))) (hl : ∀ (j2 : Nat) (h2 : Int), A j2 h2 → h2 ≤ h.toInt) : BFS U T z n f pr.toInt A' i Q1' Q2' Q3' Q4' ∧ QOK n i Q1' Q2' := by
  have ce := v_clamp (x := en) (by omega)
  have cf : fr.toNatClampNeg = i := ix_eq ei
  obtain ⟨sm, sp, s1, s2, s3⟩ := ho
  rw [cf] at s3
  have q := hq en.toNatClampNeg (by omega) (by omega)
  have ca : cnd U T z n f pr.toInt Q1 Q2 i en.toNatClampNeg h.toInt sm.toInt sp.toInt := by
    refine ⟨by omega, by omega, hh.1, hh.2, ⟨c, g, hs, ?_⟩, ?_⟩
    · rw [s1, hc]
      by_cases w : en.toNatClampNeg < n
      · rw [if_pos w, if_pos (by omega)]; omega
      · rw [if_neg w, if_neg (by omega)]; omega
    · rw [s2]
      by_cases w : en.toNatClampNeg < n
      · rw [if_pos w]
      · rw [if_neg w]; omega
  have bd : 0 ≤ sm.toInt ∧ sm.toInt ≤ 70000 * ((n : Int) - i) ∧ 1 ≤ sp.toInt ∧ sp.toInt ≤ (n : Int) - i := by
    have w : (if 0 < (Q2 en.toNatClampNeg).toInt then pr.toInt else 0) ≤ 1000 ∧ 0 ≤ (if 0 < (Q2 en.toNatClampNeg).toInt then pr.toInt else 0) := by
      split <;> omega
    omega
  rcases s3 with ⟨t1, t2, t3, t4, t5⟩ | ⟨t1, t2, t3, t4, t5, t6⟩
  · have cg : ∀ k, i < k → k < n → Q1 k = Q1' k ∧ Q2 k = Q2' k := fun k k1 k2 => by rw [t2, t3, pk_un (by omega), pk_un (by omega)]; exact ⟨rfl, rfl⟩
    refine ⟨Or.inr ?_, QOK_u hq (by omega) (Or.inl t2) (Or.inl t3)⟩
    rw [t4, t5, pk_us, pk_us]
    have e1 : Q1' i = sm := by rw [t2, pk_us]
    have e2 : Q2' i = sp := by rw [t3, pk_us]
    rw [e1, e2]
    refine ⟨bd.1, bd.2.1, bd.2.2.1, bd.2.2.2, by omega, bst_cg cg ?_⟩
    have ee : en.toInt.toNat = en.toNatClampNeg := by omega
    rw [ee]
    refine bst_new hA ca (fun s2 sp2 c2 => cnd_u hU (by omega) hf c2 ca) ?_
    rcases b with ⟨_, b2⟩ | ⟨b1, b2, b3, b4, b5, b6⟩
    · exact Or.inl b2
    · refine Or.inr ⟨_, _, _, _, b6, ?_⟩
      rcases t1 with t1 | t1
      · exact absurd t1 (v_nn b1)
      · unfold lxl at t1
        unfold LE4
        omega
  · rw [t3, t4, t5, t6]
    refine ⟨?_, hq⟩
    rcases b with ⟨b1, b2⟩ | ⟨b1, b2, b3, b4, b5, b6⟩
    · exact absurd b1 t1
    · refine Or.inr ⟨b1, b2, b3, b4, b5, bst_add b6 hA (fun s' sp' c2 => ?_)⟩
      obtain ⟨w1, w2⟩ := cnd_u hU (by omega) hf c2 ca
      have w3 := hl _ _ b6.2.1
      unfold lxl at t2
      unfold LE4
      omega
/-- all were offered: the best stands -/
theorem BFS_all {z n : Nat} {f : Nat → Int32} {pr : Int} {A : Nat → Int → Prop} {i : Nat} {Q1 Q2 Q3 Q4 : Nat → Int32} (b : BFS U T z n f pr A i Q1 Q2 Q3 Q4) (hi : i < n) (hA : ∀ (j : Nat) (h s sp : Int), cnd U T z n f pr Q1 Q2 i j h s sp → A j h) : 0 ≤ (Q1 i).toInt ∧ (Q1 i).toInt ≤ 70000 * ((n : Int) - i) ∧ 1 ≤ (Q2 i).toInt ∧ (Q2 i).toInt ≤ (n : Int) - i ∧ 0 ≤ (Q3 i).toInt ∧ bst U T z n f pr Q1 Q2 (fun _ _ => True) i (Q3 i).toInt.toNat (Q4 i).toInt (Q1 i).toInt (Q2 i).toInt := by
  rcases b with ⟨b1, b2⟩ | ⟨b1, b2, b3, b4, b5, b6, b7, b8⟩
  · have c : cnd U T z n f pr Q1 Q2 i n (-1) (cT T ((n - i : Nat) : Int) (fun k => f (i + k)) + (if n < n then pr + (Q1 n).toInt else 0)) (1 + (if n < n then (Q2 n).toInt else 0)) := ⟨hi, Nat.le_refl _, by omega, by omega, ⟨n - i, _, Or.inl ⟨rfl, rfl, fun _ _ => rfl⟩, rfl⟩, rfl⟩
    exact absurd c (b2 _ _ _ _ (hA _ _ _ _ c))
  · exact ⟨b1, b2, b3, b4, b5, b6, trivial, fun j h s sp _ c => b8 j h s sp (hA j h s sp c) c⟩
theorem PBK_s {z n : Nat} {f : Nat → Int32} {pr m m' : Int} {i : Nat} {Q1 Q2 Q3 Q4 : Nat → Int32} (a : PBK U T z n f pr m Q1 Q2 Q3 Q4) (em : m = i + 1) (em' : m' = i) (h0 : 0 ≤ (Q3 i).toInt) (b : bst U T z n f pr Q1 Q2 (fun _ _ => True) i (Q3 i).toInt.toNat (Q4 i).toInt (Q1 i).toInt (Q2 i).toInt) : PBK U T z n f pr m' Q1 Q2 Q3 Q4 := by
  intro k h1 h2
  by_cases w : k = i
  · subst w
    exact ⟨h0, b⟩
  · exact a k (by omega) h2
/-- nothing behind m changed -/
theorem PBK_k {z n : Nat} {f : Nat → Int32} {pr m : Int} {C S E H C' S' E' H' : Nat → Int32} (a : PBK U T z n f pr m C S E H) (h : ∀ k : Nat, m ≤ k → k < n → C k = C' k ∧ S k = S' k ∧ E k = E' k ∧ H k = H' k) : PBK U T z n f pr m C' S' E' H' := by
  intro i h1 h2
  obtain ⟨a0, a1⟩ := a i h1 h2
  obtain ⟨e1, e2, e3, e4⟩ := h i h1 h2
  rw [← e1, ← e2, ← e3, ← e4]
  exact ⟨a0, bst_cg (fun k k1 k2 => ⟨(h k (by omega) k2).1, (h k (by omega) k2).2.1⟩) a1⟩
/-- only the place i changed -/
def onlyI (i : Nat) (Q1 Q1' Q2 Q2' Q3 Q3' Q4 Q4' : Nat → Int32) : Prop := ∀ k : Nat, k ≠ i → Q1 k = Q1' k ∧ Q2 k = Q2' k ∧ Q3 k = Q3' k ∧ Q4 k = Q4' k
theorem only_r {i : Nat} {Q1 Q2 Q3 Q4 : Nat → Int32} : onlyI i Q1 Q1 Q2 Q2 Q3 Q3 Q4 Q4 := fun _ _ => ⟨rfl, rfl, rfl, rfl⟩
theorem only_t {i : Nat} {Q1 Q1' Q1x Q2 Q2' Q2x Q3 Q3' Q3x Q4 Q4' Q4x : Nat → Int32} (a : onlyI i Q1 Q1' Q2 Q2' Q3 Q3' Q4 Q4') (b : onlyI i Q1' Q1x Q2' Q2x Q3' Q3x Q4' Q4x) : onlyI i Q1 Q1x Q2 Q2x Q3 Q3x Q4 Q4x := fun k hk => by
  obtain ⟨a1, a2, a3, a4⟩ := a k hk
  obtain ⟨b1, b2, b3, b4⟩ := b k hk
  exact ⟨a1.trans b1, a2.trans b2, a3.trans b3, a4.trans b4⟩
theorem only_of {pr fr en h cs : Int32} {i : Nat} {Q1 Q1' Q2 Q2' Q3 Q3' Q4 Q4' : Nat → Int32} (ho : F_of pr fr en h cs Q1 Q1' Q2 Q2' Q3 Q3' Q4 Q4') (ei : fr.toInt = i) : onlyI i Q1 Q1' Q2 Q2' Q3 Q3' Q4 Q4' := by
  have cf : fr.toNatClampNeg = i := ix_eq ei
  obtain ⟨sm, sp, s1, s2, s3⟩ := ho
  rw [cf] at s3
  intro k hk
  rcases s3 with ⟨t1, t2, t3, t4, t5⟩ | ⟨t1, t2, t3, t4, t5, t6⟩
  · rw [t2, t3, t4, t5, pk_un hk, pk_un hk, pk_un hk, pk_un hk]; exact ⟨rfl, rfl, rfl, rfl⟩
  · rw [t3, t4, t5, t6]; exact ⟨rfl, rfl, rfl, rfl⟩
/-- as it is: what a span costs, letter by letter -/
theorem sh_s {i i' su su' be x r : Int32} {f : Nat → Int32} {b : Nat} (h : su.toInt = cs T (fun k => f (b + k)) (i.toInt - b).toNat) (hb : be = pv (fun k => f (b + k)) (i.toInt - b).toNat) (hx : x = f i.toNatClampNeg) (hr : r.toInt = cF (T be x) be x) (hs : su'.toInt = su.toInt + r.toInt) (h0 : (b : Int) ≤ i.toInt) (hi' : i'.toInt = i.toInt + 1) : su'.toInt = cs T (fun k => f (b + k)) (i'.toInt - b).toNat ∧ x = pv (fun k => f (b + k)) (i'.toInt - b).toNat := by
  have c := v_clamp (x := i) (by omega)
  have e : (i'.toInt - b).toNat = (i.toInt - b).toNat + 1 := by omega
  have e2 : b + (i.toInt - b).toNat = i.toNatClampNeg := by omega
  rw [e, cs, pv, e2, ← hb, ← hx, ← h, ← hr]
  exact ⟨hs, rfl⟩
theorem sh_c {i su be r s : Int32} {f : Nat → Int32} {b : Nat} (h : su.toInt = cs T (fun k => f (b + k)) (i.toInt - b).toNat) (hb : be = pv (fun k => f (b + k)) (i.toInt - b).toNat) (hr : r.toInt = cF (T be 32) be 32) (hs : s.toInt = su.toInt + r.toInt) : s.toInt = cT T (((i.toInt - b).toNat : Nat) : Int) (fun k => f (b + k)) := by
  unfold cT
  have e : (((i.toInt - b).toNat : Nat) : Int).toNat = (i.toInt - b).toNat := by omega
  rw [e, ← hb, ← h, ← hr]
  exact hs
end PR2

end

/-! 59x.a.rows -/
section
set_option maxRecDepth 100000 in
theorem dA277_cX8_step : kDec cX8_step [(0, .aload_n 0, 1), (1, .getfield 9, 3), (4, .iload_n 1, 1), (5, .aload_n 2, 1), (6, .aload_n 0, 1), (7, .getfield 19, 3), (10, .iload_n 3, 1), (11, .invokevirtual 32, 3), (14, .istore 4, 2), (16, .iload 4, 2), (18, .iconst (-1), 1), (19, .if_icmp .ne 5, 3), (24, .iload 4, 2), (26, .invokestatic 38, 3), (29, .istore 5, 2), (31, .aload_n 0, 1), (32, .dup, 1), (33, .getfield 26, 3), (36, .aload_n 0, 1), (37, .getfield 15, 3), (40, .aload_n 0, 1), (41, .getfield 23, 3), (44, .iload 5, 2), (46, .invokevirtual 42, 3)] = true := by decide +kernel
theorem dX8_step_0 : decode cX8_step 0 = .ok (.aload_n 0, 1) := kDec_at dA277_cX8_step 0 rfl
theorem dX8_step_1 : decode cX8_step 1 = .ok (.getfield 9, 3) := kDec_at dA277_cX8_step 1 rfl
theorem dX8_step_4 : decode cX8_step 4 = .ok (.iload_n 1, 1) := kDec_at dA277_cX8_step 2 rfl
theorem dX8_step_5 : decode cX8_step 5 = .ok (.aload_n 2, 1) := kDec_at dA277_cX8_step 3 rfl
theorem dX8_step_6 : decode cX8_step 6 = .ok (.aload_n 0, 1) := kDec_at dA277_cX8_step 4 rfl
theorem dX8_step_7 : decode cX8_step 7 = .ok (.getfield 19, 3) := kDec_at dA277_cX8_step 5 rfl
theorem dX8_step_10 : decode cX8_step 10 = .ok (.iload_n 3, 1) := kDec_at dA277_cX8_step 6 rfl
theorem dX8_step_11 : decode cX8_step 11 = .ok (.invokevirtual 32, 3) := kDec_at dA277_cX8_step 7 rfl
theorem dX8_step_14 : decode cX8_step 14 = .ok (.istore 4, 2) := kDec_at dA277_cX8_step 8 rfl
theorem dX8_step_16 : decode cX8_step 16 = .ok (.iload 4, 2) := kDec_at dA277_cX8_step 9 rfl
theorem dX8_step_18 : decode cX8_step 18 = .ok (.iconst (-1), 1) := kDec_at dA277_cX8_step 10 rfl
theorem dX8_step_19 : decode cX8_step 19 = .ok (.if_icmp .ne 5, 3) := kDec_at dA277_cX8_step 11 rfl
theorem dX8_step_24 : decode cX8_step 24 = .ok (.iload 4, 2) := kDec_at dA277_cX8_step 12 rfl
theorem dX8_step_26 : decode cX8_step 26 = .ok (.invokestatic 38, 3) := kDec_at dA277_cX8_step 13 rfl
theorem dX8_step_29 : decode cX8_step 29 = .ok (.istore 5, 2) := kDec_at dA277_cX8_step 14 rfl
theorem dX8_step_31 : decode cX8_step 31 = .ok (.aload_n 0, 1) := kDec_at dA277_cX8_step 15 rfl
theorem dX8_step_32 : decode cX8_step 32 = .ok (.dup, 1) := kDec_at dA277_cX8_step 16 rfl
theorem dX8_step_33 : decode cX8_step 33 = .ok (.getfield 26, 3) := kDec_at dA277_cX8_step 17 rfl
theorem dX8_step_36 : decode cX8_step 36 = .ok (.aload_n 0, 1) := kDec_at dA277_cX8_step 18 rfl
theorem dX8_step_37 : decode cX8_step 37 = .ok (.getfield 15, 3) := kDec_at dA277_cX8_step 19 rfl
theorem dX8_step_40 : decode cX8_step 40 = .ok (.aload_n 0, 1) := kDec_at dA277_cX8_step 20 rfl
theorem dX8_step_41 : decode cX8_step 41 = .ok (.getfield 23, 3) := kDec_at dA277_cX8_step 21 rfl
theorem dX8_step_44 : decode cX8_step 44 = .ok (.iload 5, 2) := kDec_at dA277_cX8_step 22 rfl
theorem dX8_step_46 : decode cX8_step 46 = .ok (.invokevirtual 42, 3) := kDec_at dA277_cX8_step 23 rfl
set_option maxRecDepth 20000 in
theorem ggX8_step_X2_decode : GoodIn wsX8_step wsX2_decode := goodIn_sub (fun _ h => List.mem_cons_of_mem _ (List.mem_append_left _ (List.mem_append_left _ (List.mem_append_left _ (List.mem_append_right _ (h)))))) gX2_decode_all
set_option maxRecDepth 20000 in
theorem gX8_step_X2_decode : GoodIn wsX8_step (wsV RX8 32 RX2 yX2_decode wsX2_decode) := goodIn_app (goodIn_r _ [11, 12, 13, 14] rfl (by decide +kernel)) ggX8_step_X2_decode
set_option maxRecDepth 20000 in
theorem ggX8_step_X2_letterIn : GoodIn wsX8_step wsX2_letterIn := goodIn_sub (fun _ h => List.mem_cons_of_mem _ (List.mem_append_left _ (List.mem_append_left _ (List.mem_append_right _ (h))))) gX2_letterIn_all
set_option maxRecDepth 20000 in
theorem gX8_step_X2_letterIn : GoodIn wsX8_step (va_wsS RX8 38 yX2_letterIn wsX2_letterIn) := goodIn_app (goodIn_r _ [15, 16, 14] rfl (by decide +kernel)) ggX8_step_X2_letterIn
set_option maxRecDepth 20000 in
theorem ggX8_step_X3_of : GoodIn wsX8_step wsX3_of := goodIn_sub (fun _ h => List.mem_cons_of_mem _ (List.mem_append_left _ (List.mem_append_right _ (h)))) gX3_of_all
set_option maxRecDepth 20000 in
theorem gX8_step_X3_of : GoodIn wsX8_step (wsV RX8 42 RX3 yX3_of wsX3_of) := goodIn_app (goodIn_r _ [17, 18, 19, 20] rfl (by decide +kernel)) ggX8_step_X3_of
set_option maxRecDepth 100000 in
theorem dA278_cX8_step : kDec cX8_step [(49, .iadd, 1), (50, .putfield 26, 3), (53, .aload_n 0, 1), (54, .iload 5, 2), (56, .putfield 23, 3), (59, .aload_n 0, 1), (60, .dup, 1), (61, .getfield 29, 3), (64, .iconst 1, 1), (65, .iadd, 1), (66, .putfield 29, 3), (69, .aload_n 0, 1), (70, .dup, 1), (71, .getfield 19, 3), (74, .iconst 1, 1), (75, .iload 4, 2), (77, .invokestatic 48, 3), (80, .invokestatic 51, 3), (83, .iadd, 1), (84, .putfield 19, 3), (87, .iconst 1, 1), (88, .ireturn, 1), (22, .iconst 0, 1), (23, .ireturn, 1)] = true := by decide +kernel
theorem dX8_step_49 : decode cX8_step 49 = .ok (.iadd, 1) := kDec_at dA278_cX8_step 0 rfl
theorem dX8_step_50 : decode cX8_step 50 = .ok (.putfield 26, 3) := kDec_at dA278_cX8_step 1 rfl
theorem dX8_step_53 : decode cX8_step 53 = .ok (.aload_n 0, 1) := kDec_at dA278_cX8_step 2 rfl
theorem dX8_step_54 : decode cX8_step 54 = .ok (.iload 5, 2) := kDec_at dA278_cX8_step 3 rfl
theorem dX8_step_56 : decode cX8_step 56 = .ok (.putfield 23, 3) := kDec_at dA278_cX8_step 4 rfl
theorem dX8_step_59 : decode cX8_step 59 = .ok (.aload_n 0, 1) := kDec_at dA278_cX8_step 5 rfl
theorem dX8_step_60 : decode cX8_step 60 = .ok (.dup, 1) := kDec_at dA278_cX8_step 6 rfl
theorem dX8_step_61 : decode cX8_step 61 = .ok (.getfield 29, 3) := kDec_at dA278_cX8_step 7 rfl
theorem dX8_step_64 : decode cX8_step 64 = .ok (.iconst 1, 1) := kDec_at dA278_cX8_step 8 rfl
theorem dX8_step_65 : decode cX8_step 65 = .ok (.iadd, 1) := kDec_at dA278_cX8_step 9 rfl
theorem dX8_step_66 : decode cX8_step 66 = .ok (.putfield 29, 3) := kDec_at dA278_cX8_step 10 rfl
theorem dX8_step_69 : decode cX8_step 69 = .ok (.aload_n 0, 1) := kDec_at dA278_cX8_step 11 rfl
theorem dX8_step_70 : decode cX8_step 70 = .ok (.dup, 1) := kDec_at dA278_cX8_step 12 rfl
theorem dX8_step_71 : decode cX8_step 71 = .ok (.getfield 19, 3) := kDec_at dA278_cX8_step 13 rfl
theorem dX8_step_74 : decode cX8_step 74 = .ok (.iconst 1, 1) := kDec_at dA278_cX8_step 14 rfl
theorem dX8_step_75 : decode cX8_step 75 = .ok (.iload 4, 2) := kDec_at dA278_cX8_step 15 rfl
theorem dX8_step_77 : decode cX8_step 77 = .ok (.invokestatic 48, 3) := kDec_at dA278_cX8_step 16 rfl
theorem dX8_step_80 : decode cX8_step 80 = .ok (.invokestatic 51, 3) := kDec_at dA278_cX8_step 17 rfl
theorem dX8_step_83 : decode cX8_step 83 = .ok (.iadd, 1) := kDec_at dA278_cX8_step 18 rfl
theorem dX8_step_84 : decode cX8_step 84 = .ok (.putfield 19, 3) := kDec_at dA278_cX8_step 19 rfl
theorem dX8_step_87 : decode cX8_step 87 = .ok (.iconst 1, 1) := kDec_at dA278_cX8_step 20 rfl
theorem dX8_step_88 : decode cX8_step 88 = .ok (.ireturn, 1) := kDec_at dA278_cX8_step 21 rfl
theorem dX8_step_22 : decode cX8_step 22 = .ok (.iconst 0, 1) := kDec_at dA278_cX8_step 22 rfl
theorem dX8_step_23 : decode cX8_step 23 = .ok (.ireturn, 1) := kDec_at dA278_cX8_step 23 rfl
set_option maxRecDepth 20000 in
theorem ggX8_step_X2_bytesIn : GoodIn wsX8_step wsX2_bytesIn := goodIn_sub (fun _ h => List.mem_cons_of_mem _ (List.mem_append_right _ (h))) gX2_bytesIn_all
set_option maxRecDepth 20000 in
theorem gX8_step_X2_bytesIn : GoodIn wsX8_step (va_wsS RX8 48 yX2_bytesIn wsX2_bytesIn) := goodIn_app (goodIn_r _ [21, 22, 14] rfl (by decide +kernel)) ggX8_step_X2_bytesIn
set_option maxRecDepth 100000 in
theorem dA279_cX8_goOn : kDec cX8_goOn [(0, .iload_n 3, 1), (1, .aload_n 0, 1), (2, .getfield 19, 3), (5, .isub, 1), (6, .istore 4, 2), (8, .iconst 0, 1), (9, .istore 5, 2), (11, .iload 5, 2), (13, .iload 4, 2), (15, .if_icmp .ge 20, 3), (35, .return_, 1), (18, .aload_n 0, 1), (19, .iload_n 1, 1), (20, .aload_n 2, 1), (21, .iload_n 3, 1), (22, .invokevirtual 56, 3), (25, .ifCond .ne 4, 3), (29, .iinc 5 1, 3), (32, .goto (-21), 3), (28, .return_, 1)] = true := by decide +kernel
theorem dX8_goOn_0 : decode cX8_goOn 0 = .ok (.iload_n 3, 1) := kDec_at dA279_cX8_goOn 0 rfl
theorem dX8_goOn_1 : decode cX8_goOn 1 = .ok (.aload_n 0, 1) := kDec_at dA279_cX8_goOn 1 rfl
theorem dX8_goOn_2 : decode cX8_goOn 2 = .ok (.getfield 19, 3) := kDec_at dA279_cX8_goOn 2 rfl
theorem dX8_goOn_5 : decode cX8_goOn 5 = .ok (.isub, 1) := kDec_at dA279_cX8_goOn 3 rfl
theorem dX8_goOn_6 : decode cX8_goOn 6 = .ok (.istore 4, 2) := kDec_at dA279_cX8_goOn 4 rfl
theorem dX8_goOn_8 : decode cX8_goOn 8 = .ok (.iconst 0, 1) := kDec_at dA279_cX8_goOn 5 rfl
theorem dX8_goOn_9 : decode cX8_goOn 9 = .ok (.istore 5, 2) := kDec_at dA279_cX8_goOn 6 rfl
theorem dX8_goOn_11 : decode cX8_goOn 11 = .ok (.iload 5, 2) := kDec_at dA279_cX8_goOn 7 rfl
theorem dX8_goOn_13 : decode cX8_goOn 13 = .ok (.iload 4, 2) := kDec_at dA279_cX8_goOn 8 rfl
theorem dX8_goOn_15 : decode cX8_goOn 15 = .ok (.if_icmp .ge 20, 3) := kDec_at dA279_cX8_goOn 9 rfl
theorem dX8_goOn_35 : decode cX8_goOn 35 = .ok (.return_, 1) := kDec_at dA279_cX8_goOn 10 rfl
theorem dX8_goOn_18 : decode cX8_goOn 18 = .ok (.aload_n 0, 1) := kDec_at dA279_cX8_goOn 11 rfl
theorem dX8_goOn_19 : decode cX8_goOn 19 = .ok (.iload_n 1, 1) := kDec_at dA279_cX8_goOn 12 rfl
theorem dX8_goOn_20 : decode cX8_goOn 20 = .ok (.aload_n 2, 1) := kDec_at dA279_cX8_goOn 13 rfl
theorem dX8_goOn_21 : decode cX8_goOn 21 = .ok (.iload_n 3, 1) := kDec_at dA279_cX8_goOn 14 rfl
theorem dX8_goOn_22 : decode cX8_goOn 22 = .ok (.invokevirtual 56, 3) := kDec_at dA279_cX8_goOn 15 rfl
theorem dX8_goOn_25 : decode cX8_goOn 25 = .ok (.ifCond .ne 4, 3) := kDec_at dA279_cX8_goOn 16 rfl
theorem dX8_goOn_29 : decode cX8_goOn 29 = .ok (.iinc 5 1, 3) := kDec_at dA279_cX8_goOn 17 rfl
theorem dX8_goOn_32 : decode cX8_goOn 32 = .ok (.goto (-21), 3) := kDec_at dA279_cX8_goOn 18 rfl
theorem dX8_goOn_28 : decode cX8_goOn 28 = .ok (.return_, 1) := kDec_at dA279_cX8_goOn 19 rfl
set_option maxRecDepth 20000 in
theorem gX8_step_all : wsX8_step.all goodWord = true := by
  unfold wsX8_step
  exact good_c (by decide +kernel) (good_a (good_a (good_a (good_a (good_a (good_a (good_a (good_a (good_a ((by decide +kernel)) gX8_clsall) gX5_clsall) gX2_clsall) gX10_clsall) gX3_clsall) gX2_decode_all) gX2_letterIn_all) gX3_of_all) gX2_bytesIn_all)
set_option maxRecDepth 20000 in
theorem ggX8_goOn_X8_step : GoodIn wsX8_goOn wsX8_step := goodIn_sub (fun _ h => List.mem_cons_of_mem _ (List.mem_append_right _ (h))) gX8_step_all
set_option maxRecDepth 20000 in
theorem gX8_goOn_X8_step : GoodIn wsX8_goOn (wsV RX8 56 RX8 yX8_step wsX8_step) := goodIn_app (goodIn_r _ [2, 3, 4, 5] rfl (by decide +kernel)) ggX8_goOn_X8_step
set_option maxRecDepth 100000 in
theorem dA280_cX8_sumWith : kDec cX8_sumWith [(0, .aload_n 0, 1), (1, .getfield 26, 3), (4, .aload_n 0, 1), (5, .getfield 15, 3), (8, .aload_n 0, 1), (9, .getfield 23, 3), (12, .iload_n 1, 1), (13, .invokevirtual 42, 3), (16, .iadd, 1), (17, .ireturn, 1)] = true := by decide +kernel
theorem dX8_sumWith_0 : decode cX8_sumWith 0 = .ok (.aload_n 0, 1) := kDec_at dA280_cX8_sumWith 0 rfl
theorem dX8_sumWith_1 : decode cX8_sumWith 1 = .ok (.getfield 26, 3) := kDec_at dA280_cX8_sumWith 1 rfl
theorem dX8_sumWith_4 : decode cX8_sumWith 4 = .ok (.aload_n 0, 1) := kDec_at dA280_cX8_sumWith 2 rfl
theorem dX8_sumWith_5 : decode cX8_sumWith 5 = .ok (.getfield 15, 3) := kDec_at dA280_cX8_sumWith 3 rfl
theorem dX8_sumWith_8 : decode cX8_sumWith 8 = .ok (.aload_n 0, 1) := kDec_at dA280_cX8_sumWith 4 rfl
theorem dX8_sumWith_9 : decode cX8_sumWith 9 = .ok (.getfield 23, 3) := kDec_at dA280_cX8_sumWith 5 rfl
theorem dX8_sumWith_12 : decode cX8_sumWith 12 = .ok (.iload_n 1, 1) := kDec_at dA280_cX8_sumWith 6 rfl
theorem dX8_sumWith_13 : decode cX8_sumWith 13 = .ok (.invokevirtual 42, 3) := kDec_at dA280_cX8_sumWith 7 rfl
theorem dX8_sumWith_16 : decode cX8_sumWith 16 = .ok (.iadd, 1) := kDec_at dA280_cX8_sumWith 8 rfl
theorem dX8_sumWith_17 : decode cX8_sumWith 17 = .ok (.ireturn, 1) := kDec_at dA280_cX8_sumWith 9 rfl
set_option maxRecDepth 20000 in
theorem ggX8_sumWith_X3_of : GoodIn wsX8_sumWith wsX3_of := goodIn_sub (fun _ h => List.mem_cons_of_mem _ (List.mem_append_right _ (h))) gX3_of_all
set_option maxRecDepth 20000 in
theorem gX8_sumWith_X3_of : GoodIn wsX8_sumWith (wsV RX8 42 RX3 yX3_of wsX3_of) := goodIn_app (goodIn_r _ [4, 5, 6, 7] rfl (by decide +kernel)) ggX8_sumWith_X3_of
set_option maxRecDepth 100000 in
theorem dA281_cX8_begin : kDec cX8_begin [(0, .aload_n 0, 1), (1, .iconst 0, 1), (2, .putfield 19, 3), (5, .aload_n 0, 1), (6, .bipush 32, 2), (8, .putfield 23, 3), (11, .aload_n 0, 1), (12, .iconst 0, 1), (13, .putfield 26, 3), (16, .aload_n 0, 1), (17, .iconst 0, 1), (18, .putfield 29, 3), (21, .return_, 1)] = true := by decide +kernel
theorem dX8_begin_0 : decode cX8_begin 0 = .ok (.aload_n 0, 1) := kDec_at dA281_cX8_begin 0 rfl
theorem dX8_begin_1 : decode cX8_begin 1 = .ok (.iconst 0, 1) := kDec_at dA281_cX8_begin 1 rfl
theorem dX8_begin_2 : decode cX8_begin 2 = .ok (.putfield 19, 3) := kDec_at dA281_cX8_begin 2 rfl
theorem dX8_begin_5 : decode cX8_begin 5 = .ok (.aload_n 0, 1) := kDec_at dA281_cX8_begin 3 rfl
theorem dX8_begin_6 : decode cX8_begin 6 = .ok (.bipush 32, 2) := kDec_at dA281_cX8_begin 4 rfl
theorem dX8_begin_8 : decode cX8_begin 8 = .ok (.putfield 23, 3) := kDec_at dA281_cX8_begin 5 rfl
theorem dX8_begin_11 : decode cX8_begin 11 = .ok (.aload_n 0, 1) := kDec_at dA281_cX8_begin 6 rfl
theorem dX8_begin_12 : decode cX8_begin 12 = .ok (.iconst 0, 1) := kDec_at dA281_cX8_begin 7 rfl
theorem dX8_begin_13 : decode cX8_begin 13 = .ok (.putfield 26, 3) := kDec_at dA281_cX8_begin 8 rfl
theorem dX8_begin_16 : decode cX8_begin 16 = .ok (.aload_n 0, 1) := kDec_at dA281_cX8_begin 9 rfl
theorem dX8_begin_17 : decode cX8_begin 17 = .ok (.iconst 0, 1) := kDec_at dA281_cX8_begin 10 rfl
theorem dX8_begin_18 : decode cX8_begin 18 = .ok (.putfield 29, 3) := kDec_at dA281_cX8_begin 11 rfl
theorem dX8_begin_21 : decode cX8_begin 21 = .ok (.return_, 1) := kDec_at dA281_cX8_begin 12 rfl
set_option maxRecDepth 100000 in
theorem dA282_cX8_takeAll : kDec cX8_takeAll [(0, .aload_n 0, 1), (1, .aload_n 1, 1), (2, .getfield 19, 3), (5, .putfield 19, 3), (8, .aload_n 0, 1), (9, .aload_n 1, 1), (10, .getfield 23, 3), (13, .putfield 23, 3), (16, .aload_n 0, 1), (17, .aload_n 1, 1), (18, .getfield 26, 3), (21, .putfield 26, 3), (24, .aload_n 0, 1), (25, .aload_n 1, 1), (26, .getfield 29, 3), (29, .putfield 29, 3), (32, .return_, 1)] = true := by decide +kernel
theorem dX8_takeAll_0 : decode cX8_takeAll 0 = .ok (.aload_n 0, 1) := kDec_at dA282_cX8_takeAll 0 rfl
theorem dX8_takeAll_1 : decode cX8_takeAll 1 = .ok (.aload_n 1, 1) := kDec_at dA282_cX8_takeAll 1 rfl
theorem dX8_takeAll_2 : decode cX8_takeAll 2 = .ok (.getfield 19, 3) := kDec_at dA282_cX8_takeAll 2 rfl
theorem dX8_takeAll_5 : decode cX8_takeAll 5 = .ok (.putfield 19, 3) := kDec_at dA282_cX8_takeAll 3 rfl
theorem dX8_takeAll_8 : decode cX8_takeAll 8 = .ok (.aload_n 0, 1) := kDec_at dA282_cX8_takeAll 4 rfl
theorem dX8_takeAll_9 : decode cX8_takeAll 9 = .ok (.aload_n 1, 1) := kDec_at dA282_cX8_takeAll 5 rfl
theorem dX8_takeAll_10 : decode cX8_takeAll 10 = .ok (.getfield 23, 3) := kDec_at dA282_cX8_takeAll 6 rfl
theorem dX8_takeAll_13 : decode cX8_takeAll 13 = .ok (.putfield 23, 3) := kDec_at dA282_cX8_takeAll 7 rfl
theorem dX8_takeAll_16 : decode cX8_takeAll 16 = .ok (.aload_n 0, 1) := kDec_at dA282_cX8_takeAll 8 rfl
theorem dX8_takeAll_17 : decode cX8_takeAll 17 = .ok (.aload_n 1, 1) := kDec_at dA282_cX8_takeAll 9 rfl
theorem dX8_takeAll_18 : decode cX8_takeAll 18 = .ok (.getfield 26, 3) := kDec_at dA282_cX8_takeAll 10 rfl
theorem dX8_takeAll_21 : decode cX8_takeAll 21 = .ok (.putfield 26, 3) := kDec_at dA282_cX8_takeAll 11 rfl
theorem dX8_takeAll_24 : decode cX8_takeAll 24 = .ok (.aload_n 0, 1) := kDec_at dA282_cX8_takeAll 12 rfl
theorem dX8_takeAll_25 : decode cX8_takeAll 25 = .ok (.aload_n 1, 1) := kDec_at dA282_cX8_takeAll 13 rfl
theorem dX8_takeAll_26 : decode cX8_takeAll 26 = .ok (.getfield 29, 3) := kDec_at dA282_cX8_takeAll 14 rfl
theorem dX8_takeAll_29 : decode cX8_takeAll 29 = .ok (.putfield 29, 3) := kDec_at dA282_cX8_takeAll 15 rfl
theorem dX8_takeAll_32 : decode cX8_takeAll 32 = .ok (.return_, 1) := kDec_at dA282_cX8_takeAll 16 rfl
set_option maxRecDepth 100000 in
theorem dA283_cX4_writtenIn : kDec cX4_writtenIn [(0, .iload_n 1, 1), (1, .ifCond .lt 20, 3), (4, .iload_n 1, 1), (5, .aload_n 0, 1), (6, .getfield 22, 3), (9, .if_icmp .ge 12, 3), (12, .aload_n 0, 1), (13, .getfield 9, 3), (16, .iload_n 1, 1), (17, .iaload, 1), (18, .goto 4, 3), (22, .ireturn, 1)] = true := by decide +kernel
theorem dX4_writtenIn_0 : decode cX4_writtenIn 0 = .ok (.iload_n 1, 1) := kDec_at dA283_cX4_writtenIn 0 rfl
theorem dX4_writtenIn_1 : decode cX4_writtenIn 1 = .ok (.ifCond .lt 20, 3) := kDec_at dA283_cX4_writtenIn 1 rfl
theorem dX4_writtenIn_4 : decode cX4_writtenIn 4 = .ok (.iload_n 1, 1) := kDec_at dA283_cX4_writtenIn 2 rfl
theorem dX4_writtenIn_5 : decode cX4_writtenIn 5 = .ok (.aload_n 0, 1) := kDec_at dA283_cX4_writtenIn 3 rfl
theorem dX4_writtenIn_6 : decode cX4_writtenIn 6 = .ok (.getfield 22, 3) := kDec_at dA283_cX4_writtenIn 4 rfl
theorem dX4_writtenIn_9 : decode cX4_writtenIn 9 = .ok (.if_icmp .ge 12, 3) := kDec_at dA283_cX4_writtenIn 5 rfl
theorem dX4_writtenIn_12 : decode cX4_writtenIn 12 = .ok (.aload_n 0, 1) := kDec_at dA283_cX4_writtenIn 6 rfl
theorem dX4_writtenIn_13 : decode cX4_writtenIn 13 = .ok (.getfield 9, 3) := kDec_at dA283_cX4_writtenIn 7 rfl
theorem dX4_writtenIn_16 : decode cX4_writtenIn 16 = .ok (.iload_n 1, 1) := kDec_at dA283_cX4_writtenIn 8 rfl
theorem dX4_writtenIn_17 : decode cX4_writtenIn 17 = .ok (.iaload, 1) := kDec_at dA283_cX4_writtenIn 9 rfl
theorem dX4_writtenIn_18 : decode cX4_writtenIn 18 = .ok (.goto 4, 3) := kDec_at dA283_cX4_writtenIn 10 rfl
theorem dX4_writtenIn_22 : decode cX4_writtenIn 22 = .ok (.ireturn, 1) := kDec_at dA283_cX4_writtenIn 11 rfl
set_option maxRecDepth 100000 in
theorem dA284_cX4_readIn : kDec cX4_readIn [(0, .iload_n 1, 1), (1, .ifCond .lt 20, 3), (4, .iload_n 1, 1), (5, .aload_n 0, 1), (6, .getfield 22, 3), (9, .if_icmp .ge 12, 3), (12, .aload_n 0, 1), (13, .getfield 15, 3), (16, .iload_n 1, 1), (17, .iaload, 1), (18, .goto 4, 3), (22, .ireturn, 1)] = true := by decide +kernel
theorem dX4_readIn_0 : decode cX4_readIn 0 = .ok (.iload_n 1, 1) := kDec_at dA284_cX4_readIn 0 rfl
theorem dX4_readIn_1 : decode cX4_readIn 1 = .ok (.ifCond .lt 20, 3) := kDec_at dA284_cX4_readIn 1 rfl
theorem dX4_readIn_4 : decode cX4_readIn 4 = .ok (.iload_n 1, 1) := kDec_at dA284_cX4_readIn 2 rfl
theorem dX4_readIn_5 : decode cX4_readIn 5 = .ok (.aload_n 0, 1) := kDec_at dA284_cX4_readIn 3 rfl
theorem dX4_readIn_6 : decode cX4_readIn 6 = .ok (.getfield 22, 3) := kDec_at dA284_cX4_readIn 4 rfl
theorem dX4_readIn_9 : decode cX4_readIn 9 = .ok (.if_icmp .ge 12, 3) := kDec_at dA284_cX4_readIn 5 rfl
theorem dX4_readIn_12 : decode cX4_readIn 12 = .ok (.aload_n 0, 1) := kDec_at dA284_cX4_readIn 6 rfl
theorem dX4_readIn_13 : decode cX4_readIn 13 = .ok (.getfield 15, 3) := kDec_at dA284_cX4_readIn 7 rfl
theorem dX4_readIn_16 : decode cX4_readIn 16 = .ok (.iload_n 1, 1) := kDec_at dA284_cX4_readIn 8 rfl
theorem dX4_readIn_17 : decode cX4_readIn 17 = .ok (.iaload, 1) := kDec_at dA284_cX4_readIn 9 rfl
theorem dX4_readIn_18 : decode cX4_readIn 18 = .ok (.goto 4, 3) := kDec_at dA284_cX4_readIn 10 rfl
theorem dX4_readIn_22 : decode cX4_readIn 22 = .ok (.ireturn, 1) := kDec_at dA284_cX4_readIn 11 rfl
set_option maxRecDepth 100000 in
theorem dA285_cX6_isBetter : kDec cX6_isBetter [(0, .iload_n 2, 1), (1, .aload_n 0, 1), (2, .getfield 26, 3), (5, .iload_n 1, 1), (6, .iaload, 1), (7, .if_icmp .eq 19, 3), (26, .iload_n 3, 1), (27, .aload_n 0, 1), (28, .getfield 30, 3), (31, .iload_n 1, 1), (32, .iaload, 1), (33, .if_icmp .eq 19, 3), (52, .iload 4, 2), (54, .aload_n 0, 1), (55, .getfield 33, 3), (58, .iload_n 1, 1), (59, .iaload, 1), (60, .if_icmp .le 7, 3), (67, .iconst 0, 1), (68, .ireturn, 1), (63, .iconst 1, 1), (64, .goto 4, 3), (36, .iload_n 3, 1), (37, .aload_n 0, 1)] = true := by decide +kernel
theorem dX6_isBetter_0 : decode cX6_isBetter 0 = .ok (.iload_n 2, 1) := kDec_at dA285_cX6_isBetter 0 rfl
theorem dX6_isBetter_1 : decode cX6_isBetter 1 = .ok (.aload_n 0, 1) := kDec_at dA285_cX6_isBetter 1 rfl
theorem dX6_isBetter_2 : decode cX6_isBetter 2 = .ok (.getfield 26, 3) := kDec_at dA285_cX6_isBetter 2 rfl
theorem dX6_isBetter_5 : decode cX6_isBetter 5 = .ok (.iload_n 1, 1) := kDec_at dA285_cX6_isBetter 3 rfl
theorem dX6_isBetter_6 : decode cX6_isBetter 6 = .ok (.iaload, 1) := kDec_at dA285_cX6_isBetter 4 rfl
theorem dX6_isBetter_7 : decode cX6_isBetter 7 = .ok (.if_icmp .eq 19, 3) := kDec_at dA285_cX6_isBetter 5 rfl
theorem dX6_isBetter_26 : decode cX6_isBetter 26 = .ok (.iload_n 3, 1) := kDec_at dA285_cX6_isBetter 6 rfl
theorem dX6_isBetter_27 : decode cX6_isBetter 27 = .ok (.aload_n 0, 1) := kDec_at dA285_cX6_isBetter 7 rfl
theorem dX6_isBetter_28 : decode cX6_isBetter 28 = .ok (.getfield 30, 3) := kDec_at dA285_cX6_isBetter 8 rfl
theorem dX6_isBetter_31 : decode cX6_isBetter 31 = .ok (.iload_n 1, 1) := kDec_at dA285_cX6_isBetter 9 rfl
theorem dX6_isBetter_32 : decode cX6_isBetter 32 = .ok (.iaload, 1) := kDec_at dA285_cX6_isBetter 10 rfl
theorem dX6_isBetter_33 : decode cX6_isBetter 33 = .ok (.if_icmp .eq 19, 3) := kDec_at dA285_cX6_isBetter 11 rfl
theorem dX6_isBetter_52 : decode cX6_isBetter 52 = .ok (.iload 4, 2) := kDec_at dA285_cX6_isBetter 12 rfl
theorem dX6_isBetter_54 : decode cX6_isBetter 54 = .ok (.aload_n 0, 1) := kDec_at dA285_cX6_isBetter 13 rfl
theorem dX6_isBetter_55 : decode cX6_isBetter 55 = .ok (.getfield 33, 3) := kDec_at dA285_cX6_isBetter 14 rfl
theorem dX6_isBetter_58 : decode cX6_isBetter 58 = .ok (.iload_n 1, 1) := kDec_at dA285_cX6_isBetter 15 rfl
theorem dX6_isBetter_59 : decode cX6_isBetter 59 = .ok (.iaload, 1) := kDec_at dA285_cX6_isBetter 16 rfl
theorem dX6_isBetter_60 : decode cX6_isBetter 60 = .ok (.if_icmp .le 7, 3) := kDec_at dA285_cX6_isBetter 17 rfl
theorem dX6_isBetter_67 : decode cX6_isBetter 67 = .ok (.iconst 0, 1) := kDec_at dA285_cX6_isBetter 18 rfl
theorem dX6_isBetter_68 : decode cX6_isBetter 68 = .ok (.ireturn, 1) := kDec_at dA285_cX6_isBetter 19 rfl
theorem dX6_isBetter_63 : decode cX6_isBetter 63 = .ok (.iconst 1, 1) := kDec_at dA285_cX6_isBetter 20 rfl
theorem dX6_isBetter_64 : decode cX6_isBetter 64 = .ok (.goto 4, 3) := kDec_at dA285_cX6_isBetter 21 rfl
theorem dX6_isBetter_36 : decode cX6_isBetter 36 = .ok (.iload_n 3, 1) := kDec_at dA285_cX6_isBetter 22 rfl
theorem dX6_isBetter_37 : decode cX6_isBetter 37 = .ok (.aload_n 0, 1) := kDec_at dA285_cX6_isBetter 23 rfl
set_option maxRecDepth 100000 in
theorem dA286_cX6_isBetter : kDec cX6_isBetter [(38, .getfield 30, 3), (41, .iload_n 1, 1), (42, .iaload, 1), (43, .if_icmp .ge 7, 3), (50, .iconst 0, 1), (51, .ireturn, 1), (46, .iconst 1, 1), (47, .goto 4, 3), (10, .iload_n 2, 1), (11, .aload_n 0, 1), (12, .getfield 26, 3), (15, .iload_n 1, 1), (16, .iaload, 1), (17, .if_icmp .ge 7, 3), (24, .iconst 0, 1), (25, .ireturn, 1), (20, .iconst 1, 1), (21, .goto 4, 3)] = true := by decide +kernel
theorem dX6_isBetter_38 : decode cX6_isBetter 38 = .ok (.getfield 30, 3) := kDec_at dA286_cX6_isBetter 0 rfl
theorem dX6_isBetter_41 : decode cX6_isBetter 41 = .ok (.iload_n 1, 1) := kDec_at dA286_cX6_isBetter 1 rfl
theorem dX6_isBetter_42 : decode cX6_isBetter 42 = .ok (.iaload, 1) := kDec_at dA286_cX6_isBetter 2 rfl
theorem dX6_isBetter_43 : decode cX6_isBetter 43 = .ok (.if_icmp .ge 7, 3) := kDec_at dA286_cX6_isBetter 3 rfl
theorem dX6_isBetter_50 : decode cX6_isBetter 50 = .ok (.iconst 0, 1) := kDec_at dA286_cX6_isBetter 4 rfl
theorem dX6_isBetter_51 : decode cX6_isBetter 51 = .ok (.ireturn, 1) := kDec_at dA286_cX6_isBetter 5 rfl
theorem dX6_isBetter_46 : decode cX6_isBetter 46 = .ok (.iconst 1, 1) := kDec_at dA286_cX6_isBetter 6 rfl
theorem dX6_isBetter_47 : decode cX6_isBetter 47 = .ok (.goto 4, 3) := kDec_at dA286_cX6_isBetter 7 rfl
theorem dX6_isBetter_10 : decode cX6_isBetter 10 = .ok (.iload_n 2, 1) := kDec_at dA286_cX6_isBetter 8 rfl
theorem dX6_isBetter_11 : decode cX6_isBetter 11 = .ok (.aload_n 0, 1) := kDec_at dA286_cX6_isBetter 9 rfl
theorem dX6_isBetter_12 : decode cX6_isBetter 12 = .ok (.getfield 26, 3) := kDec_at dA286_cX6_isBetter 10 rfl
theorem dX6_isBetter_15 : decode cX6_isBetter 15 = .ok (.iload_n 1, 1) := kDec_at dA286_cX6_isBetter 11 rfl
theorem dX6_isBetter_16 : decode cX6_isBetter 16 = .ok (.iaload, 1) := kDec_at dA286_cX6_isBetter 12 rfl
theorem dX6_isBetter_17 : decode cX6_isBetter 17 = .ok (.if_icmp .ge 7, 3) := kDec_at dA286_cX6_isBetter 13 rfl
theorem dX6_isBetter_24 : decode cX6_isBetter 24 = .ok (.iconst 0, 1) := kDec_at dA286_cX6_isBetter 14 rfl
theorem dX6_isBetter_25 : decode cX6_isBetter 25 = .ok (.ireturn, 1) := kDec_at dA286_cX6_isBetter 15 rfl
theorem dX6_isBetter_20 : decode cX6_isBetter 20 = .ok (.iconst 1, 1) := kDec_at dA286_cX6_isBetter 16 rfl
theorem dX6_isBetter_21 : decode cX6_isBetter 21 = .ok (.goto 4, 3) := kDec_at dA286_cX6_isBetter 17 rfl
set_option maxRecDepth 100000 in
theorem dA287_cX6_offer : kDec cX6_offer [(0, .iload_n 1, 1), (1, .ifCond .lt 14, 3), (4, .iload_n 2, 1), (5, .iload_n 1, 1), (6, .if_icmp .le 9, 3), (9, .iload_n 2, 1), (10, .bipush 60, 2), (12, .if_icmp .le 4, 3), (16, .iload 4, 2), (18, .aload_n 0, 1), (19, .getfield 26, 3), (22, .iload_n 2, 1), (23, .iaload, 1), (24, .iadd, 1), (25, .aload_n 0, 1), (26, .getfield 30, 3), (29, .iload_n 2, 1), (30, .iaload, 1), (31, .ifCond .le 10, 3), (41, .iconst 0, 1), (42, .iadd, 1), (43, .istore 5, 2), (45, .iconst 1, 1), (46, .aload_n 0, 1)] = true := by decide +kernel
theorem dX6_offer_0 : decode cX6_offer 0 = .ok (.iload_n 1, 1) := kDec_at dA287_cX6_offer 0 rfl
theorem dX6_offer_1 : decode cX6_offer 1 = .ok (.ifCond .lt 14, 3) := kDec_at dA287_cX6_offer 1 rfl
theorem dX6_offer_4 : decode cX6_offer 4 = .ok (.iload_n 2, 1) := kDec_at dA287_cX6_offer 2 rfl
theorem dX6_offer_5 : decode cX6_offer 5 = .ok (.iload_n 1, 1) := kDec_at dA287_cX6_offer 3 rfl
theorem dX6_offer_6 : decode cX6_offer 6 = .ok (.if_icmp .le 9, 3) := kDec_at dA287_cX6_offer 4 rfl
theorem dX6_offer_9 : decode cX6_offer 9 = .ok (.iload_n 2, 1) := kDec_at dA287_cX6_offer 5 rfl
theorem dX6_offer_10 : decode cX6_offer 10 = .ok (.bipush 60, 2) := kDec_at dA287_cX6_offer 6 rfl
theorem dX6_offer_12 : decode cX6_offer 12 = .ok (.if_icmp .le 4, 3) := kDec_at dA287_cX6_offer 7 rfl
theorem dX6_offer_16 : decode cX6_offer 16 = .ok (.iload 4, 2) := kDec_at dA287_cX6_offer 8 rfl
theorem dX6_offer_18 : decode cX6_offer 18 = .ok (.aload_n 0, 1) := kDec_at dA287_cX6_offer 9 rfl
theorem dX6_offer_19 : decode cX6_offer 19 = .ok (.getfield 26, 3) := kDec_at dA287_cX6_offer 10 rfl
theorem dX6_offer_22 : decode cX6_offer 22 = .ok (.iload_n 2, 1) := kDec_at dA287_cX6_offer 11 rfl
theorem dX6_offer_23 : decode cX6_offer 23 = .ok (.iaload, 1) := kDec_at dA287_cX6_offer 12 rfl
theorem dX6_offer_24 : decode cX6_offer 24 = .ok (.iadd, 1) := kDec_at dA287_cX6_offer 13 rfl
theorem dX6_offer_25 : decode cX6_offer 25 = .ok (.aload_n 0, 1) := kDec_at dA287_cX6_offer 14 rfl
theorem dX6_offer_26 : decode cX6_offer 26 = .ok (.getfield 30, 3) := kDec_at dA287_cX6_offer 15 rfl
theorem dX6_offer_29 : decode cX6_offer 29 = .ok (.iload_n 2, 1) := kDec_at dA287_cX6_offer 16 rfl
theorem dX6_offer_30 : decode cX6_offer 30 = .ok (.iaload, 1) := kDec_at dA287_cX6_offer 17 rfl
theorem dX6_offer_31 : decode cX6_offer 31 = .ok (.ifCond .le 10, 3) := kDec_at dA287_cX6_offer 18 rfl
theorem dX6_offer_41 : decode cX6_offer 41 = .ok (.iconst 0, 1) := kDec_at dA287_cX6_offer 19 rfl
theorem dX6_offer_42 : decode cX6_offer 42 = .ok (.iadd, 1) := kDec_at dA287_cX6_offer 20 rfl
theorem dX6_offer_43 : decode cX6_offer 43 = .ok (.istore 5, 2) := kDec_at dA287_cX6_offer 21 rfl
theorem dX6_offer_45 : decode cX6_offer 45 = .ok (.iconst 1, 1) := kDec_at dA287_cX6_offer 22 rfl
theorem dX6_offer_46 : decode cX6_offer 46 = .ok (.aload_n 0, 1) := kDec_at dA287_cX6_offer 23 rfl
set_option maxRecDepth 100000 in
theorem dA288_cX6_offer : kDec cX6_offer [(47, .getfield 30, 3), (50, .iload_n 2, 1), (51, .iaload, 1), (52, .iadd, 1), (53, .istore 6, 2), (55, .aload_n 0, 1), (56, .getfield 26, 3), (59, .iload_n 1, 1), (60, .iaload, 1), (61, .iconst (-1), 1), (62, .if_icmp .eq 16, 3), (78, .aload_n 0, 1), (79, .getfield 26, 3), (82, .iload_n 1, 1), (83, .iload 5, 2), (85, .iastore, 1), (86, .aload_n 0, 1), (87, .getfield 30, 3), (90, .iload_n 1, 1), (91, .iload 6, 2), (93, .iastore, 1), (94, .aload_n 0, 1), (95, .getfield 33, 3), (98, .iload_n 1, 1)] = true := by decide +kernel
theorem dX6_offer_47 : decode cX6_offer 47 = .ok (.getfield 30, 3) := kDec_at dA288_cX6_offer 0 rfl
theorem dX6_offer_50 : decode cX6_offer 50 = .ok (.iload_n 2, 1) := kDec_at dA288_cX6_offer 1 rfl
theorem dX6_offer_51 : decode cX6_offer 51 = .ok (.iaload, 1) := kDec_at dA288_cX6_offer 2 rfl
theorem dX6_offer_52 : decode cX6_offer 52 = .ok (.iadd, 1) := kDec_at dA288_cX6_offer 3 rfl
theorem dX6_offer_53 : decode cX6_offer 53 = .ok (.istore 6, 2) := kDec_at dA288_cX6_offer 4 rfl
theorem dX6_offer_55 : decode cX6_offer 55 = .ok (.aload_n 0, 1) := kDec_at dA288_cX6_offer 5 rfl
theorem dX6_offer_56 : decode cX6_offer 56 = .ok (.getfield 26, 3) := kDec_at dA288_cX6_offer 6 rfl
theorem dX6_offer_59 : decode cX6_offer 59 = .ok (.iload_n 1, 1) := kDec_at dA288_cX6_offer 7 rfl
theorem dX6_offer_60 : decode cX6_offer 60 = .ok (.iaload, 1) := kDec_at dA288_cX6_offer 8 rfl
theorem dX6_offer_61 : decode cX6_offer 61 = .ok (.iconst (-1), 1) := kDec_at dA288_cX6_offer 9 rfl
theorem dX6_offer_62 : decode cX6_offer 62 = .ok (.if_icmp .eq 16, 3) := kDec_at dA288_cX6_offer 10 rfl
theorem dX6_offer_78 : decode cX6_offer 78 = .ok (.aload_n 0, 1) := kDec_at dA288_cX6_offer 11 rfl
theorem dX6_offer_79 : decode cX6_offer 79 = .ok (.getfield 26, 3) := kDec_at dA288_cX6_offer 12 rfl
theorem dX6_offer_82 : decode cX6_offer 82 = .ok (.iload_n 1, 1) := kDec_at dA288_cX6_offer 13 rfl
theorem dX6_offer_83 : decode cX6_offer 83 = .ok (.iload 5, 2) := kDec_at dA288_cX6_offer 14 rfl
theorem dX6_offer_85 : decode cX6_offer 85 = .ok (.iastore, 1) := kDec_at dA288_cX6_offer 15 rfl
theorem dX6_offer_86 : decode cX6_offer 86 = .ok (.aload_n 0, 1) := kDec_at dA288_cX6_offer 16 rfl
theorem dX6_offer_87 : decode cX6_offer 87 = .ok (.getfield 30, 3) := kDec_at dA288_cX6_offer 17 rfl
theorem dX6_offer_90 : decode cX6_offer 90 = .ok (.iload_n 1, 1) := kDec_at dA288_cX6_offer 18 rfl
theorem dX6_offer_91 : decode cX6_offer 91 = .ok (.iload 6, 2) := kDec_at dA288_cX6_offer 19 rfl
theorem dX6_offer_93 : decode cX6_offer 93 = .ok (.iastore, 1) := kDec_at dA288_cX6_offer 20 rfl
theorem dX6_offer_94 : decode cX6_offer 94 = .ok (.aload_n 0, 1) := kDec_at dA288_cX6_offer 21 rfl
theorem dX6_offer_95 : decode cX6_offer 95 = .ok (.getfield 33, 3) := kDec_at dA288_cX6_offer 22 rfl
theorem dX6_offer_98 : decode cX6_offer 98 = .ok (.iload_n 1, 1) := kDec_at dA288_cX6_offer 23 rfl
set_option maxRecDepth 100000 in
theorem dA289_cX6_offer : kDec cX6_offer [(99, .iload_n 2, 1), (100, .iastore, 1), (101, .aload_n 0, 1), (102, .getfield 36, 3), (105, .iload_n 1, 1), (106, .iload_n 3, 1), (107, .iastore, 1), (108, .return_, 1), (65, .aload_n 0, 1), (66, .iload_n 1, 1), (67, .iload 5, 2), (69, .iload 6, 2), (71, .iload_n 2, 1), (72, .invokevirtual 128, 3), (75, .ifCond .eq 33, 3), (34, .aload_n 0, 1), (35, .getfield 60, 3), (38, .goto 4, 3)] = true := by decide +kernel
theorem dX6_offer_99 : decode cX6_offer 99 = .ok (.iload_n 2, 1) := kDec_at dA289_cX6_offer 0 rfl
theorem dX6_offer_100 : decode cX6_offer 100 = .ok (.iastore, 1) := kDec_at dA289_cX6_offer 1 rfl
theorem dX6_offer_101 : decode cX6_offer 101 = .ok (.aload_n 0, 1) := kDec_at dA289_cX6_offer 2 rfl
theorem dX6_offer_102 : decode cX6_offer 102 = .ok (.getfield 36, 3) := kDec_at dA289_cX6_offer 3 rfl
theorem dX6_offer_105 : decode cX6_offer 105 = .ok (.iload_n 1, 1) := kDec_at dA289_cX6_offer 4 rfl
theorem dX6_offer_106 : decode cX6_offer 106 = .ok (.iload_n 3, 1) := kDec_at dA289_cX6_offer 5 rfl
theorem dX6_offer_107 : decode cX6_offer 107 = .ok (.iastore, 1) := kDec_at dA289_cX6_offer 6 rfl
theorem dX6_offer_108 : decode cX6_offer 108 = .ok (.return_, 1) := kDec_at dA289_cX6_offer 7 rfl
theorem dX6_offer_65 : decode cX6_offer 65 = .ok (.aload_n 0, 1) := kDec_at dA289_cX6_offer 8 rfl
theorem dX6_offer_66 : decode cX6_offer 66 = .ok (.iload_n 1, 1) := kDec_at dA289_cX6_offer 9 rfl
theorem dX6_offer_67 : decode cX6_offer 67 = .ok (.iload 5, 2) := kDec_at dA289_cX6_offer 10 rfl
theorem dX6_offer_69 : decode cX6_offer 69 = .ok (.iload 6, 2) := kDec_at dA289_cX6_offer 11 rfl
theorem dX6_offer_71 : decode cX6_offer 71 = .ok (.iload_n 2, 1) := kDec_at dA289_cX6_offer 12 rfl
theorem dX6_offer_72 : decode cX6_offer 72 = .ok (.invokevirtual 128, 3) := kDec_at dA289_cX6_offer 13 rfl
theorem dX6_offer_75 : decode cX6_offer 75 = .ok (.ifCond .eq 33, 3) := kDec_at dA289_cX6_offer 14 rfl
theorem dX6_offer_34 : decode cX6_offer 34 = .ok (.aload_n 0, 1) := kDec_at dA289_cX6_offer 15 rfl
theorem dX6_offer_35 : decode cX6_offer 35 = .ok (.getfield 60, 3) := kDec_at dA289_cX6_offer 16 rfl
theorem dX6_offer_38 : decode cX6_offer 38 = .ok (.goto 4, 3) := kDec_at dA289_cX6_offer 17 rfl
set_option maxRecDepth 20000 in
theorem gX6_isBetter_all : wsX6_isBetter.all goodWord = true := by
  unfold wsX6_isBetter
  exact good_c (by decide +kernel) (good_a ((by decide +kernel)) gX6_clsall)
set_option maxRecDepth 20000 in
theorem ggX6_offer_X6_isBetter : GoodIn wsX6_offer wsX6_isBetter := goodIn_sub (fun _ h => List.mem_cons_of_mem _ (List.mem_append_right _ (h))) gX6_isBetter_all
set_option maxRecDepth 20000 in
theorem gX6_offer_X6_isBetter : GoodIn wsX6_offer (wsV RX6 128 RX6 yX6_isBetter wsX6_isBetter) := goodIn_app (goodIn_r _ [6, 7, 8, 9] rfl (by decide +kernel)) ggX6_offer_X6_isBetter

end

/-! 59x.parts -/
section
set_option maxHeartbeats 40000000 in
set_option maxRecDepth 100000 in
theorem f_X8_step (l : Launch) (dC : Nat → ClassId) (dI : Nat → Nat → Nat) (cI cS : ClassId) (sz : Nat) (oE : Nat) (nu : Nat) (oC : Nat) (oK : Nat) (o4 : Nat) (o5 : Nat) (a41 : Nat) (a42 : Nat) (a43 : Nat) (a51 : Nat) (a52 : Nat) (a53 : Nat) (k1 : Nat) (k2 : Nat) (au : Nat) (cap : Nat) (reE : Int32) (laE : Int32) (suE : Int32) (leE : Int32) (l4 : Int32) (f41 : Nat → Int32) (l5 : Int32) (f51 : Nat → Int32) (lK : Int32) (fK1 : Nat → Int32) (fK2 : Nat → Int32) (lu : Int32) (fu : Nat → Int32) (cd : Int32) (en : Int32) (g_laE : 0 ≤ laE.toInt ∧ laE.toInt ≤ 65535) (g_lK : 0 ≤ lK.toInt ∧ lK.toInt ≤ 300) (g_lu : 0 ≤ lu.toInt ∧ lu.toInt ≤ (cap : Int)) (hcap : cap ≤ 2400) (hen : en.toInt ≤ lu.toInt) (hby : prg en.toInt 0 255 fu) (hL4 : prg 256 (-1) 65535 f41) (hL5 : prg 256 (-1) 65535 f51) (hT : HT 1024 1023 hsK fK1 fK2) (ho : (occ fK2 1024 : Int) ≤ lK.toInt) (hV : prg 1024 (-1) 200 fK2) (hn8E : 0 ≤ suE.toInt ∧ suE.toInt ≤ 200 * leE.toInt ∧ 0 ≤ leE.toInt ∧ leE.toInt ≤ reE.toInt ∧ reE.toInt ≤ en.toInt) : kMi l yX8_step wsX8_step ({ frames := 3, cells := 0, slots := 0, locals := 74 } : Room) [.ref oE, .int cd, .ref nu, .int en] sz (dC, dI) vwCl [(cI, .int), (cS, .short)] [(oE, .inr (8, [.ref oC, .ref oK, .int reE, .int laE, .int suE, .int leE])), (oC, .inr (2, [.ref o4, .ref o5])), (o4, .inr (10, [.ref a41, .ref a42, .ref a43, .int l4])), (a41, .inl (cI, 256, .inl f41)), (o5, .inr (10, [.ref a51, .ref a52, .ref a53, .int l5])), (a51, .inl (cI, 256, .inl f51)), (oK, .inr (3, [.ref k1, .ref k2, .int lK])), (k1, .inl (cI, 1024, .inl fK1)), (k2, .inl (cI, 1024, .inl fK2)), (nu, .inr (5, [.ref au, .int lu])), (au, .inl (cI, cap, .inl fu))] (va_Nw (.methodLinkNest RX2 52 yX11_isLetter "TextMender")) 0 0 (fun (A : Nat → Prop) (r : Int32) (hh9 : Heap) => ∀ PZ9 : Prop, (∀ (reE' : Int32) (laE' : Int32) (suE' : Int32) (leE' : Int32), kPD (dC, dI) vwCl A [(oE, .inr (8, [.ref oC, .ref oK, .int reE', .int laE', .int suE', .int leE'])), (oC, .inr (2, [.ref o4, .ref o5])), (o4, .inr (10, [.ref a41, .ref a42, .ref a43, .int l4])), (a41, .inl (cI, 256, .inl f41)), (o5, .inr (10, [.ref a51, .ref a52, .ref a53, .int l5])), (a51, .inl (cI, 256, .inl f51)), (oK, .inr (3, [.ref k1, .ref k2, .int lK])), (k1, .inl (cI, 1024, .inl fK1)), (k2, .inl (cI, 1024, .inl fK2)), (nu, .inr (5, [.ref au, .int lu])), (au, .inl (cI, cap, .inl fu))] hh9 → (0 ≤ laE'.toInt ∧ laE'.toInt ≤ 65535) → (0 ≤ r.toInt ∧ r.toInt ≤ 1) → (0 ≤ suE'.toInt ∧ suE'.toInt ≤ 200 * leE'.toInt ∧ 0 ≤ leE'.toInt ∧ leE'.toInt ≤ reE'.toInt ∧ reE'.toInt ≤ en.toInt) → (F_s8 r reE reE' laE laE' suE suE' leE leE' (tcC fK1 fK2) (dl cd f41 f51 fu en.toInt) (dx cd f41 f51 fu en.toInt)) → PZ9) → PZ9) := by
  refine kMi_of (cc := cX8_step) (maxL := 6) (ret := (some .boolean)) (lv := [(0, .ref oE), (1, .int cd), (2, .ref nu), (3, .int en)]) (by decide +kernel) rfl rfl (Nat.le_of_ble_eq_true rfl) ?_
  intro p e s m below meth c A QQ ls hx hb hr hts hml hown hlocks hA hQQ hK hX hP hD hS hl
  have hown : s.vm.findClass RX8 = some m.cls := hown
  have hcf := k_cf hx hb hml hown hts
  have hN52 := hX
  have in_X8 : ∀ w ∈ wsX80, w ∈ wsX8_step := fun _ h => List.mem_cons_of_mem _ (List.mem_append_left _ (List.mem_append_left _ (List.mem_append_left _ (List.mem_append_left _ (List.mem_append_left _ (List.mem_append_left _ (List.mem_append_left _ (List.mem_append_left _ (List.mem_append_right _ (h))))))))))
  refine lv_aload_n hx hb dX8_step_0 rfl (lv_at hl 0 rfl) ?_
  refine va_get (D := (dC, dI)) (ci := 8) (v := .ref oC) (C := RX8) (T := TX8) (N := 6) hx hb hts in_X8 hown hK hP 0 rfl rfl 0 (Nat.le_of_ble_eq_true rfl) (hts (.fieldLink RX8 9 "TextMender$Reading" "codes" "LTextMender$Codes;") (List.mem_of_getElem? (i := 1) rfl)) (fun _ h9 => h9) rfl dX8_step_1 ?_
  refine lv_iload_n hx hb dX8_step_4 rfl (lv_at hl 1 rfl) ?_
  refine lv_aload_n hx hb dX8_step_5 rfl (lv_at hl 2 rfl) ?_
  refine lv_aload_n hx hb dX8_step_6 rfl (lv_at hl 0 rfl) ?_
  refine va_get (D := (dC, dI)) (ci := 8) (v := .int reE) (C := RX8) (T := TX8) (N := 6) hx hb hts in_X8 hown hK hP 0 rfl rfl 2 (Nat.le_of_ble_eq_true rfl) (hts (.fieldLink RX8 19 "TextMender$Reading" "reached" "I") (List.mem_of_getElem? (i := 2) rfl)) (fun _ h9 => h9) rfl dX8_step_7 ?_
  refine lv_iload_n hx hb dX8_step_10 rfl (lv_at hl 3 rfl) ?_
  refine kV_i (rest := []) (q0 := 0) (ci := 2) hcf (f_X2_decode l dC dI cI cS s.heap.size oC nu o4 o5 a41 a42 a43 a51 a52 a53 au cap l4 f41 l5 f51 lu fu cd reE en (g_lu) (by omega) (by omega) (by omega) (hby) (hL4) (hL5)) kc_X2_decode gX8_step_X2_decode rfl rfl rfl ⟨Nat.le_of_ble_eq_true rfl, Nat.le_of_ble_eq_true rfl⟩ (kX_1 hN52) hK hP hD hS hA (posT mk_40 0) (posF mk_40 0) (kC_of mk_40 rfl rfl) (by decide +kernel) rfl rfl rfl hl rfl (Nat.le_of_ble_eq_true rfl) dX8_step_11 ⟨Nat.le_of_ble_eq_true rfl, Nat.le_of_ble_eq_true rfl⟩ (fun r_1 H locs hB hJ hSn => ?_)
  refine hB _ (fun hPD9 hf1_0 => ?_)
  clear hB
  obtain ⟨hPn, hDn⟩ := kJi (m := mk_40) hJ rfl hPD9.1 hPD9.2 (wn := [(oE, .inr (8, [.ref oC, .ref oK, .int reE, .int laE, .int suE, .int leE])), (oC, .inr (2, [.ref o4, .ref o5])), (o4, .inr (10, [.ref a41, .ref a42, .ref a43, .int l4])), (a41, .inl (cI, 256, .inl f41)), (o5, .inr (10, [.ref a51, .ref a52, .ref a53, .int l5])), (a51, .inl (cI, 256, .inl f51)), (oK, .inr (3, [.ref k1, .ref k2, .int lK])), (k1, .inl (cI, 1024, .inl fK1)), (k2, .inl (cI, 1024, .inl fK2)), (nu, .inr (5, [.ref au, .int lu])), (au, .inl (cI, cap, .inl fu))]) rfl
  clear hP hD hS hJ hPD9
  have hP := hPn
  have hD := hDn
  have hS := hSn
  clear hPn hDn hSn
  refine lv_istore (lv' := [(4, .int r_1), (0, .ref oE), (1, .int cd), (2, .ref nu), (3, .int en)]) hx hb dX8_step_14 hl (by decide) rfl (fun ls hl => ?_)
  refine lv_iload hx hb dX8_step_16 (lv_at hl 0 rfl) ?_
  refine lv_iconst (v := (-1)) hx hb dX8_step_18 (by decide) ?_
  refine lv_icmp_ne (tgt := 24) hx hb dX8_step_19 (by decide) (fun c_2 => ?_) (fun c_2 => ?_)
  · have tc_2 : ¬ r_1.toInt = (-1) := v_ne c_2
    obtain ⟨l9, x9, hD9, hr9, hx9, hy9⟩ := F_dc_1 hf1_0 c_2
    have cp9 := v_clamp (x := reE) (by omega)
    have hp9 := Dec_pos hD9
    have hd9 := dl_of hD9
    refine lv_iload hx hb dX8_step_24 (lv_at hl 0 rfl) ?_
    refine kS_i (rest := []) hcf (f_X2_letterIn l dC dI cI cS H.size r_1 ) kc_X2_letterIn gX8_step_X2_letterIn rfl rfl ⟨Nat.le_of_ble_eq_true rfl, Nat.le_of_ble_eq_true rfl⟩ kX_t hK hP hD hS hA (posT mk_41 0) (posF mk_41 0) (kC_of mk_41 rfl rfl) (by decide +kernel) rfl hl rfl (Nat.le_of_ble_eq_true rfl) dX8_step_26 ⟨Nat.le_of_ble_eq_true rfl, Nat.le_of_ble_eq_true rfl⟩ (fun r_3 H locs hB hJ hSn => ?_)
    refine hB _ (fun hPD9 hf3_0 => ?_)
    clear hB
    obtain ⟨hPn, hDn⟩ := kJi (m := mk_41) hJ rfl hPD9.1 hPD9.2 (wn := [(oE, .inr (8, [.ref oC, .ref oK, .int reE, .int laE, .int suE, .int leE])), (oC, .inr (2, [.ref o4, .ref o5])), (o4, .inr (10, [.ref a41, .ref a42, .ref a43, .int l4])), (a41, .inl (cI, 256, .inl f41)), (o5, .inr (10, [.ref a51, .ref a52, .ref a53, .int l5])), (a51, .inl (cI, 256, .inl f51)), (oK, .inr (3, [.ref k1, .ref k2, .int lK])), (k1, .inl (cI, 1024, .inl fK1)), (k2, .inl (cI, 1024, .inl fK2)), (nu, .inr (5, [.ref au, .int lu])), (au, .inl (cI, cap, .inl fu))]) rfl
    clear hP hD hS hJ hPD9
    have hP := hPn
    have hD := hDn
    have hS := hSn
    clear hPn hDn hSn
    refine lv_istore (lv' := [(5, .int r_3), (4, .int r_1), (0, .ref oE), (1, .int cd), (2, .ref nu), (3, .int en)]) hx hb dX8_step_29 hl (by decide) rfl (fun ls hl => ?_)
    refine lv_aload_n hx hb dX8_step_31 rfl (lv_at hl 2 rfl) ?_
    refine lv_dup hx hb dX8_step_32 rfl ?_
    refine va_get (D := (dC, dI)) (ci := 8) (v := .int suE) (C := RX8) (T := TX8) (N := 6) hx hb hts in_X8 hown hK hP 0 rfl rfl 4 (Nat.le_of_ble_eq_true rfl) (hts (.fieldLink RX8 26 "TextMender$Reading" "sum" "I") (List.mem_of_getElem? (i := 3) rfl)) (fun _ h9 => h9) rfl dX8_step_33 ?_
    refine lv_aload_n hx hb dX8_step_36 rfl (lv_at hl 2 rfl) ?_
    refine va_get (D := (dC, dI)) (ci := 8) (v := .ref oK) (C := RX8) (T := TX8) (N := 6) hx hb hts in_X8 hown hK hP 0 rfl rfl 1 (Nat.le_of_ble_eq_true rfl) (hts (.fieldLink RX8 15 "TextMender$Reading" "costs" "LTextMender$Costs;") (List.mem_of_getElem? (i := 4) rfl)) (fun _ h9 => h9) rfl dX8_step_37 ?_
    refine lv_aload_n hx hb dX8_step_40 rfl (lv_at hl 2 rfl) ?_
    refine va_get (D := (dC, dI)) (ci := 8) (v := .int laE) (C := RX8) (T := TX8) (N := 6) hx hb hts in_X8 hown hK hP 0 rfl rfl 3 (Nat.le_of_ble_eq_true rfl) (hts (.fieldLink RX8 23 "TextMender$Reading" "latest" "I") (List.mem_of_getElem? (i := 5) rfl)) (fun _ h9 => h9) rfl dX8_step_41 ?_
    refine lv_iload hx hb dX8_step_44 (lv_at hl 0 rfl) ?_
    refine kV_i (rest := [.int suE, .ref oE]) (q0 := 0) (ci := 3) hcf (f_X3_of l dC dI cI cS H.size oK k1 k2 lK fK1 fK2 laE r_3 (g_lK) (g_laE) (by omega) (hT) (ho) (hV)) kc_X3_of gX8_step_X3_of rfl rfl rfl ⟨Nat.le_of_ble_eq_true rfl, Nat.le_of_ble_eq_true rfl⟩ kX_t hK hP hD hS hA (posT mk_42 0) (posF mk_42 0) (kC_of mk_42 rfl rfl) (by decide +kernel) rfl rfl rfl hl rfl (Nat.le_of_ble_eq_true rfl) dX8_step_46 ⟨Nat.le_of_ble_eq_true rfl, Nat.le_of_ble_eq_true rfl⟩ (fun r_4 H locs hB hJ hSn => ?_)
    refine hB _ (fun hPD9 hf4_0 hf4_1 => ?_)
    clear hB
    obtain ⟨hPn, hDn⟩ := kJi (m := mk_42) hJ rfl hPD9.1 hPD9.2 (wn := [(oE, .inr (8, [.ref oC, .ref oK, .int reE, .int laE, .int suE, .int leE])), (oC, .inr (2, [.ref o4, .ref o5])), (o4, .inr (10, [.ref a41, .ref a42, .ref a43, .int l4])), (a41, .inl (cI, 256, .inl f41)), (o5, .inr (10, [.ref a51, .ref a52, .ref a53, .int l5])), (a51, .inl (cI, 256, .inl f51)), (oK, .inr (3, [.ref k1, .ref k2, .int lK])), (k1, .inl (cI, 1024, .inl fK1)), (k2, .inl (cI, 1024, .inl fK2)), (nu, .inr (5, [.ref au, .int lu])), (au, .inl (cI, cap, .inl fu))]) rfl
    clear hP hD hS hJ hPD9
    have hP := hPn
    have hD := hDn
    have hS := hSn
    clear hPn hDn hSn
    refine lv_iadd hx hb dX8_step_49 ?_
    refine lv_topi (fun x_5 ex_5 => ?_)
    have tx_5 : x_5.toInt = suE.toInt + r_4.toInt := v_add ex_5 (by show -2147483648 ≤ suE.toInt + r_4.toInt; omega) (by show suE.toInt + r_4.toInt < 2147483648; omega)
    refine va_put (D := (dC, dI)) (ci := 8) (v := .int x_5) (ty := .int) (C := RX8) (T := TX8) (N := 6) hx hb hts in_X8 tyX8 tyX8_ok nmX8 hown hK hP hD hS 0 rfl rfl 4 (Nat.le_of_ble_eq_true rfl) (hts (.fieldLink RX8 26 "TextMender$Reading" "sum" "I") (List.mem_of_getElem? (i := 3) rfl)) (fun _ h9 => h9) rfl (tyX8_ok 4 (Nat.le_of_ble_eq_true rfl)) rfl rfl (Nat.le_of_ble_eq_true rfl) dX8_step_50 (kW (wn := [(oE, .inr (8, [.ref oC, .ref oK, .int reE, .int laE, .int x_5, .int leE])), (oC, .inr (2, [.ref o4, .ref o5])), (o4, .inr (10, [.ref a41, .ref a42, .ref a43, .int l4])), (a41, .inl (cI, 256, .inl f41)), (o5, .inr (10, [.ref a51, .ref a52, .ref a53, .int l5])), (a51, .inl (cI, 256, .inl f51)), (oK, .inr (3, [.ref k1, .ref k2, .int lK])), (k1, .inl (cI, 1024, .inl fK1)), (k2, .inl (cI, 1024, .inl fK2)), (nu, .inr (5, [.ref au, .int lu])), (au, .inl (cI, cap, .inl fu))]) rfl (fun H locs hPn hDn hSn => ?_))
    clear hP hD hS
    have hP := hPn
    have hD := hDn
    have hS := hSn
    clear hPn hDn hSn
    refine lv_aload_n hx hb dX8_step_53 rfl (lv_at hl 2 rfl) ?_
    refine lv_iload hx hb dX8_step_54 (lv_at hl 0 rfl) ?_
    refine va_put (D := (dC, dI)) (ci := 8) (v := .int r_3) (ty := .int) (C := RX8) (T := TX8) (N := 6) hx hb hts in_X8 tyX8 tyX8_ok nmX8 hown hK hP hD hS 0 rfl rfl 3 (Nat.le_of_ble_eq_true rfl) (hts (.fieldLink RX8 23 "TextMender$Reading" "latest" "I") (List.mem_of_getElem? (i := 5) rfl)) (fun _ h9 => h9) rfl (tyX8_ok 3 (Nat.le_of_ble_eq_true rfl)) rfl rfl (Nat.le_of_ble_eq_true rfl) dX8_step_56 (kW (wn := [(oE, .inr (8, [.ref oC, .ref oK, .int reE, .int r_3, .int x_5, .int leE])), (oC, .inr (2, [.ref o4, .ref o5])), (o4, .inr (10, [.ref a41, .ref a42, .ref a43, .int l4])), (a41, .inl (cI, 256, .inl f41)), (o5, .inr (10, [.ref a51, .ref a52, .ref a53, .int l5])), (a51, .inl (cI, 256, .inl f51)), (oK, .inr (3, [.ref k1, .ref k2, .int lK])), (k1, .inl (cI, 1024, .inl fK1)), (k2, .inl (cI, 1024, .inl fK2)), (nu, .inr (5, [.ref au, .int lu])), (au, .inl (cI, cap, .inl fu))]) rfl (fun H locs hPn hDn hSn => ?_))
    clear hP hD hS
    have hP := hPn
    have hD := hDn
    have hS := hSn
    clear hPn hDn hSn
    refine lv_aload_n hx hb dX8_step_59 rfl (lv_at hl 2 rfl) ?_
    refine lv_dup hx hb dX8_step_60 rfl ?_
    refine va_get (D := (dC, dI)) (ci := 8) (v := .int leE) (C := RX8) (T := TX8) (N := 6) hx hb hts in_X8 hown hK hP 0 rfl rfl 5 (Nat.le_of_ble_eq_true rfl) (hts (.fieldLink RX8 29 "TextMender$Reading" "letters" "I") (List.mem_of_getElem? (i := 6) rfl)) (fun _ h9 => h9) rfl dX8_step_61 ?_
    refine lv_iconst (v := 1) hx hb dX8_step_64 (by decide) ?_
    refine lv_iadd hx hb dX8_step_65 ?_
    refine lv_topi (fun x_6 ex_6 => ?_)
    have tx_6 : x_6.toInt = leE.toInt + 1 := v_add ex_6 (by show -2147483648 ≤ leE.toInt + 1; omega) (by show leE.toInt + 1 < 2147483648; omega)
    refine va_put (D := (dC, dI)) (ci := 8) (v := .int x_6) (ty := .int) (C := RX8) (T := TX8) (N := 6) hx hb hts in_X8 tyX8 tyX8_ok nmX8 hown hK hP hD hS 0 rfl rfl 5 (Nat.le_of_ble_eq_true rfl) (hts (.fieldLink RX8 29 "TextMender$Reading" "letters" "I") (List.mem_of_getElem? (i := 6) rfl)) (fun _ h9 => h9) rfl (tyX8_ok 5 (Nat.le_of_ble_eq_true rfl)) rfl rfl (Nat.le_of_ble_eq_true rfl) dX8_step_66 (kW (wn := [(oE, .inr (8, [.ref oC, .ref oK, .int reE, .int r_3, .int x_5, .int x_6])), (oC, .inr (2, [.ref o4, .ref o5])), (o4, .inr (10, [.ref a41, .ref a42, .ref a43, .int l4])), (a41, .inl (cI, 256, .inl f41)), (o5, .inr (10, [.ref a51, .ref a52, .ref a53, .int l5])), (a51, .inl (cI, 256, .inl f51)), (oK, .inr (3, [.ref k1, .ref k2, .int lK])), (k1, .inl (cI, 1024, .inl fK1)), (k2, .inl (cI, 1024, .inl fK2)), (nu, .inr (5, [.ref au, .int lu])), (au, .inl (cI, cap, .inl fu))]) rfl (fun H locs hPn hDn hSn => ?_))
    clear hP hD hS
    have hP := hPn
    have hD := hDn
    have hS := hSn
    clear hPn hDn hSn
    refine lv_aload_n hx hb dX8_step_69 rfl (lv_at hl 2 rfl) ?_
    refine lv_dup hx hb dX8_step_70 rfl ?_
    refine va_get (D := (dC, dI)) (ci := 8) (v := .int reE) (C := RX8) (T := TX8) (N := 6) hx hb hts in_X8 hown hK hP 0 rfl rfl 2 (Nat.le_of_ble_eq_true rfl) (hts (.fieldLink RX8 19 "TextMender$Reading" "reached" "I") (List.mem_of_getElem? (i := 2) rfl)) (fun _ h9 => h9) rfl dX8_step_71 ?_
    refine lv_iconst (v := 1) hx hb dX8_step_74 (by decide) ?_
    refine lv_iload hx hb dX8_step_75 (lv_at hl 1 rfl) ?_
    refine kS_i (rest := [.int 1, .int reE, .ref oE]) hcf (f_X2_bytesIn l dC dI cI cS H.size r_1 (by omega)) kc_X2_bytesIn gX8_step_X2_bytesIn rfl rfl ⟨Nat.le_of_ble_eq_true rfl, Nat.le_of_ble_eq_true rfl⟩ kX_t hK hP hD hS hA (posT mk_41 0) (posF mk_41 0) (kC_of mk_41 rfl rfl) (by decide +kernel) rfl hl rfl (Nat.le_of_ble_eq_true rfl) dX8_step_77 ⟨Nat.le_of_ble_eq_true rfl, Nat.le_of_ble_eq_true rfl⟩ (fun r_7 H locs hB hJ hSn => ?_)
    refine hB _ (fun hPD9 hf7_0 hf7_1 => ?_)
    clear hB
    obtain ⟨hPn, hDn⟩ := kJi (m := mk_41) hJ rfl hPD9.1 hPD9.2 (wn := [(oE, .inr (8, [.ref oC, .ref oK, .int reE, .int r_3, .int x_5, .int x_6])), (oC, .inr (2, [.ref o4, .ref o5])), (o4, .inr (10, [.ref a41, .ref a42, .ref a43, .int l4])), (a41, .inl (cI, 256, .inl f41)), (o5, .inr (10, [.ref a51, .ref a52, .ref a53, .int l5])), (a51, .inl (cI, 256, .inl f51)), (oK, .inr (3, [.ref k1, .ref k2, .int lK])), (k1, .inl (cI, 1024, .inl fK1)), (k2, .inl (cI, 1024, .inl fK2)), (nu, .inr (5, [.ref au, .int lu])), (au, .inl (cI, cap, .inl fu))]) rfl
    clear hP hD hS hJ hPD9
    have hP := hPn
    have hD := hDn
    have hS := hSn
    clear hPn hDn hSn
    refine va_mmax hx hb (by rw [hml]; exact hl.1.symm) hown (hts (.methodLink RX8 51 Lib.Math.max.name) (List.mem_of_getElem? (i := 7) rfl)) (hts (.static Lib.Math.max.name) (List.mem_of_getElem? (i := 8) rfl)) (hts (.initialized "java/lang/Math") (List.mem_of_getElem? (i := 9) rfl)) (hts (.code Lib.Math.max.name Lib.Math.max.code 2 (some .int)) (List.mem_of_getElem? (i := 10) rfl)) (Nat.le_of_ble_eq_true rfl) (Nat.le_of_ble_eq_true rfl) (Nat.zero_le _) (Nat.zero_le _) dX8_step_80 ?_
    refine lv_topi (fun x_8 ex_8 => ?_)
    have tx_8 : 1 ≤ x_8.toInt ∧ r_7.toInt ≤ x_8.toInt ∧ (x_8.toInt = 1 ∨ x_8.toInt = r_7.toInt) := v_max ex_8
    refine lv_iadd hx hb dX8_step_83 ?_
    refine lv_topi (fun x_9 ex_9 => ?_)
    have tx_9 : x_9.toInt = reE.toInt + x_8.toInt := v_add ex_9 (by show -2147483648 ≤ reE.toInt + x_8.toInt; omega) (by show reE.toInt + x_8.toInt < 2147483648; omega)
    refine va_put (D := (dC, dI)) (ci := 8) (v := .int x_9) (ty := .int) (C := RX8) (T := TX8) (N := 6) hx hb hts in_X8 tyX8 tyX8_ok nmX8 hown hK hP hD hS 0 rfl rfl 2 (Nat.le_of_ble_eq_true rfl) (hts (.fieldLink RX8 19 "TextMender$Reading" "reached" "I") (List.mem_of_getElem? (i := 2) rfl)) (fun _ h9 => h9) rfl (tyX8_ok 2 (Nat.le_of_ble_eq_true rfl)) rfl rfl (Nat.le_of_ble_eq_true rfl) dX8_step_84 (kW (wn := [(oE, .inr (8, [.ref oC, .ref oK, .int x_9, .int r_3, .int x_5, .int x_6])), (oC, .inr (2, [.ref o4, .ref o5])), (o4, .inr (10, [.ref a41, .ref a42, .ref a43, .int l4])), (a41, .inl (cI, 256, .inl f41)), (o5, .inr (10, [.ref a51, .ref a52, .ref a53, .int l5])), (a51, .inl (cI, 256, .inl f51)), (oK, .inr (3, [.ref k1, .ref k2, .int lK])), (k1, .inl (cI, 1024, .inl fK1)), (k2, .inl (cI, 1024, .inl fK2)), (nu, .inr (5, [.ref au, .int lu])), (au, .inl (cI, cap, .inl fu))]) rfl (fun H locs hPn hDn hSn => ?_))
    clear hP hD hS
    have hP := hPn
    have hD := hDn
    have hS := hSn
    clear hPn hDn hSn
    refine lv_iconst (v := 1) hx hb dX8_step_87 (by decide) ?_
    exact kl_z (v := 1) hQQ hx hb hr hlocks hS dX8_step_88 (rfl) (fun PZ9 kZ9 => kZ9 x_9 r_3 x_5 x_6 (⟨hP, hD⟩) (by omega) (by decide) (by show 0 ≤ x_5.toInt ∧ x_5.toInt ≤ 200 * x_6.toInt ∧ 0 ≤ x_6.toInt ∧ x_6.toInt ≤ x_9.toInt ∧ x_9.toInt ≤ en.toInt; omega) (Or.inl ⟨rfl, by rw [hd9.1]; omega, by rw [hd9.1]; omega, by rw [hd9.2]; exact (show r_3 = x9 from v_inj (by omega)), by rw [hd9.2, ← (show r_3 = x9 from v_inj (by omega))]; have q9 := hf4_1; omega, by omega⟩))
  · have tc_2 : r_1.toInt = (-1) := v_eq c_2
    refine lv_iconst (v := 0) hx hb dX8_step_22 (by decide) ?_
    exact kl_z (v := 0) hQQ hx hb hr hlocks hS dX8_step_23 (rfl) (fun PZ9 kZ9 => kZ9 reE laE suE leE (⟨hP, hD⟩) (g_laE) (by decide) (by show 0 ≤ suE.toInt ∧ suE.toInt ≤ 200 * leE.toInt ∧ 0 ≤ leE.toInt ∧ leE.toInt ≤ reE.toInt ∧ reE.toInt ≤ en.toInt; omega) (Or.inr ⟨rfl, F_dc_0 hf1_0 c_2, rfl, rfl, rfl, rfl⟩))

theorem s8_0 {r re re' la la' su su' le le' : Int32} {T : Int32 → Int32 → Int32} {D : Nat → Nat} {X : Nat → Int32} (h : F_s8 r re re' la la' su su' le le' T D X) (h0 : r.toInt = 0) : D re'.toNatClampNeg = 0 := by
  rcases h with ⟨a, _⟩ | ⟨_, a1, a2, _⟩
  · rw [a] at h0; exact absurd h0 (by decide)
  · rw [a2]; exact a1
theorem s8_1 {r re re' la la' su su' le le' : Int32} {T : Int32 → Int32 → Int32} {D : Nat → Nat} {X : Nat → Int32} (h : F_s8 r re re' la la' su su' le le' T D X) (h1 : ¬ r.toInt = 0) : re.toInt + 1 ≤ re'.toInt := by
  rcases h with ⟨_, a1, a2, _⟩ | ⟨a, _⟩
  · omega
  · exact absurd (by rw [a]; rfl) h1

set_option maxHeartbeats 40000000 in
set_option maxRecDepth 100000 in
theorem f_X8_goOn (l : Launch) (dC : Nat → ClassId) (dI : Nat → Nat → Nat) (cI cS : ClassId) (sz : Nat) (oE : Nat) (nu : Nat) (oC : Nat) (oK : Nat) (o4 : Nat) (o5 : Nat) (a41 : Nat) (a42 : Nat) (a43 : Nat) (a51 : Nat) (a52 : Nat) (a53 : Nat) (k1 : Nat) (k2 : Nat) (au : Nat) (cap : Nat) (reE : Int32) (laE : Int32) (suE : Int32) (leE : Int32) (l4 : Int32) (f41 : Nat → Int32) (l5 : Int32) (f51 : Nat → Int32) (lK : Int32) (fK1 : Nat → Int32) (fK2 : Nat → Int32) (lu : Int32) (fu : Nat → Int32) (cd : Int32) (en : Int32) (g_laE : 0 ≤ laE.toInt ∧ laE.toInt ≤ 65535) (g_lK : 0 ≤ lK.toInt ∧ lK.toInt ≤ 300) (g_lu : 0 ≤ lu.toInt ∧ lu.toInt ≤ (cap : Int)) (hcap : cap ≤ 2400) (hen : en.toInt ≤ lu.toInt) (hby : prg en.toInt 0 255 fu) (hL4 : prg 256 (-1) 65535 f41) (hL5 : prg 256 (-1) 65535 f51) (hT : HT 1024 1023 hsK fK1 fK2) (ho : (occ fK2 1024 : Int) ≤ lK.toInt) (hV : prg 1024 (-1) 200 fK2) (hn8E : 0 ≤ suE.toInt ∧ suE.toInt ≤ 200 * leE.toInt ∧ 0 ≤ leE.toInt ∧ leE.toInt ≤ reE.toInt ∧ reE.toInt ≤ en.toInt) (hrs : RS (tcC fK1 fK2) reE laE suE leE (dl cd f41 f51 fu en.toInt) (dx cd f41 f51 fu en.toInt)) : kMv l yX8_goOn wsX8_goOn ({ frames := 4, cells := 0, slots := 0, locals := 99 } : Room) [.ref oE, .int cd, .ref nu, .int en] sz (dC, dI) vwCl [(cI, .int), (cS, .short)] [(oE, .inr (8, [.ref oC, .ref oK, .int reE, .int laE, .int suE, .int leE])), (oC, .inr (2, [.ref o4, .ref o5])), (o4, .inr (10, [.ref a41, .ref a42, .ref a43, .int l4])), (a41, .inl (cI, 256, .inl f41)), (o5, .inr (10, [.ref a51, .ref a52, .ref a53, .int l5])), (a51, .inl (cI, 256, .inl f51)), (oK, .inr (3, [.ref k1, .ref k2, .int lK])), (k1, .inl (cI, 1024, .inl fK1)), (k2, .inl (cI, 1024, .inl fK2)), (nu, .inr (5, [.ref au, .int lu])), (au, .inl (cI, cap, .inl fu))] (va_Nw (.methodLinkNest RX2 52 yX11_isLetter "TextMender")) 0 0 (fun (A : Nat → Prop) (hh9 : Heap) => ∀ PZ9 : Prop, (∀ (reE' : Int32) (laE' : Int32) (suE' : Int32) (leE' : Int32), kPD (dC, dI) vwCl A [(oE, .inr (8, [.ref oC, .ref oK, .int reE', .int laE', .int suE', .int leE'])), (oC, .inr (2, [.ref o4, .ref o5])), (o4, .inr (10, [.ref a41, .ref a42, .ref a43, .int l4])), (a41, .inl (cI, 256, .inl f41)), (o5, .inr (10, [.ref a51, .ref a52, .ref a53, .int l5])), (a51, .inl (cI, 256, .inl f51)), (oK, .inr (3, [.ref k1, .ref k2, .int lK])), (k1, .inl (cI, 1024, .inl fK1)), (k2, .inl (cI, 1024, .inl fK2)), (nu, .inr (5, [.ref au, .int lu])), (au, .inl (cI, cap, .inl fu))] hh9 → (0 ≤ laE'.toInt ∧ laE'.toInt ≤ 65535) → (0 ≤ suE'.toInt ∧ suE'.toInt ≤ 200 * leE'.toInt ∧ 0 ≤ leE'.toInt ∧ leE'.toInt ≤ reE'.toInt ∧ reE'.toInt ≤ en.toInt) → (RS (tcC fK1 fK2) reE' laE' suE' leE' (dl cd f41 f51 fu en.toInt) (dx cd f41 f51 fu en.toInt)) → (reE'.toInt = en.toInt ∨ dl cd f41 f51 fu en.toInt reE'.toNatClampNeg = 0) → PZ9) → PZ9) := by
  refine kMv_of (cc := cX8_goOn) (maxL := 6) (ret := none) (lv := [(0, .ref oE), (1, .int cd), (2, .ref nu), (3, .int en)]) (by decide +kernel) rfl rfl (Nat.le_of_ble_eq_true rfl) ?_
  intro p e s m below meth c A QQ ls hx hb hr hts hml hown hlocks hA hQQ hK hX hP hD hS hl
  have hown : s.vm.findClass RX8 = some m.cls := hown
  have hcf := k_cf hx hb hml hown hts
  have hN52 := hX
  have in_X8 : ∀ w ∈ wsX80, w ∈ wsX8_goOn := fun _ h => List.mem_cons_of_mem _ (List.mem_append_left _ (List.mem_append_left _ (List.mem_append_left _ (List.mem_append_left _ (List.mem_append_left _ (List.mem_append_right _ (h)))))))
  have z0 : (0 : Int32).toInt = 0 := rfl
  have z1 : (1 : Int32).toInt = 1 := rfl
  have zm1 : (-1 : Int32).toInt = -1 := rfl
  refine lv_iload_n hx hb dX8_goOn_0 rfl (lv_at hl 3 rfl) ?_
  refine lv_aload_n hx hb dX8_goOn_1 rfl (lv_at hl 0 rfl) ?_
  refine va_get (D := (dC, dI)) (ci := 8) (v := .int reE) (C := RX8) (T := TX8) (N := 6) hx hb hts in_X8 hown hK hP 0 rfl rfl 2 (Nat.le_of_ble_eq_true rfl) (hts (.fieldLink RX8 19 "TextMender$Reading" "reached" "I") (List.mem_of_getElem? (i := 1) rfl)) (fun _ h9 => h9) rfl dX8_goOn_2 ?_
  refine lv_isub hx hb dX8_goOn_5 ?_
  refine lv_topi (fun x_1 ex_1 => ?_)
  have tx_1 : x_1.toInt = en.toInt - reE.toInt := v_sub ex_1 (by show -2147483648 ≤ en.toInt - reE.toInt; omega) (by show en.toInt - reE.toInt < 2147483648; omega)
  refine lv_istore (lv' := [(4, .int x_1), (0, .ref oE), (1, .int cd), (2, .ref nu), (3, .int en)]) hx hb dX8_goOn_6 hl (by decide) rfl (fun ls hl => ?_)
  refine lv_iconst (v := 0) hx hb dX8_goOn_8 (by decide) ?_
  refine lv_istore (lv' := [(5, .int 0), (4, .int x_1), (0, .ref oE), (1, .int cd), (2, .ref nu), (3, .int en)]) hx hb dX8_goOn_9 hl (by decide) rfl (fun ls hl => ?_)
  have LOOP_11 : ∀ (k_11 : Nat) (k : Int32) (re2 : Int32) (la2 : Int32) (su2 : Int32) (le2 : Int32) (H : Heap) (locs : List Loc) (ls : Array Slot), MSd (en.toInt - reE.toInt - k.toInt : Int) k_11 → (0 ≤ k.toInt ∧ k.toInt ≤ 2400) → (0 ≤ re2.toInt ∧ re2.toInt ≤ 2400) → (0 ≤ la2.toInt ∧ la2.toInt ≤ 65535) → (0 ≤ su2.toInt ∧ su2.toInt ≤ 480000) → (0 ≤ le2.toInt ∧ le2.toInt ≤ 2400) → (su2.toInt ≤ 200 * le2.toInt ∧ le2.toInt ≤ re2.toInt ∧ re2.toInt ≤ en.toInt) → (k.toInt ≤ re2.toInt - reE.toInt) → (RS (tcC fK1 fK2) re2 la2 su2 le2 (dl cd f41 f51 fu en.toInt) (dx cd f41 f51 fu en.toInt)) → va_P (dC, dI) vwCl [(oE, .inr (8, [.ref oC, .ref oK, .int re2, .int la2, .int su2, .int le2])), (oC, .inr (2, [.ref o4, .ref o5])), (o4, .inr (10, [.ref a41, .ref a42, .ref a43, .int l4])), (a41, .inl (cI, 256, .inl f41)), (o5, .inr (10, [.ref a51, .ref a52, .ref a53, .int l5])), (a51, .inl (cI, 256, .inl f51)), (oK, .inr (3, [.ref k1, .ref k2, .int lK])), (k1, .inl (cI, 1024, .inl fK1)), (k2, .inl (cI, 1024, .inl fK2)), (nu, .inr (5, [.ref au, .int lu])), (au, .inl (cI, cap, .inl fu))] H → va_D A [(oE, .inr (8, [.ref oC, .ref oK, .int re2, .int la2, .int su2, .int le2])), (oC, .inr (2, [.ref o4, .ref o5])), (o4, .inr (10, [.ref a41, .ref a42, .ref a43, .int l4])), (a41, .inl (cI, 256, .inl f41)), (o5, .inr (10, [.ref a51, .ref a52, .ref a53, .int l5])), (a51, .inl (cI, 256, .inl f51)), (oK, .inr (3, [.ref k1, .ref k2, .int lK])), (k1, .inl (cI, 1024, .inl fK1)), (k2, .inl (cI, 1024, .inl fK2)), (nu, .inr (5, [.ref au, .int lu])), (au, .inl (cI, cap, .inl fu))] → va_S A s.heap H locs → lv_has ls 6 [(5, .int k), (4, .int x_1), (0, .ref oE), (1, .int cd), (2, .ref nu), (3, .int en)] → W p l e (headSpec wsX8_goOn ({ frames := 4, cells := 0, slots := 0, locals := 99 } : Room)).room s m ([.ref oE, .int cd, .ref nu, .int en] : List Value).toArray below meth c H locs 0 0 (MQ below QQ ([.ref oE, .int cd, .ref nu, .int en] : List Value).toArray s 0 0 A) (F0 m 11 ls []) := by
    clear hP hD hS hl
    intro k_11
    induction k_11 with
    | zero =>
      intro k re2 la2 su2 le2 H locs ls hm_11 g_k g_re2 g_la2 g_su2 g_le2 hn2 hkr hrs2 hP hD hS hl
      exact ms_0 hm_11
    | succ k_11 ih_11 =>
      intro k re2 la2 su2 le2 H locs ls hm_11 g_k g_re2 g_la2 g_su2 g_le2 hn2 hkr hrs2 hP hD hS hl
      refine lv_iload hx hb dX8_goOn_11 (lv_at hl 0 rfl) ?_
      refine lv_iload hx hb dX8_goOn_13 (lv_at hl 1 rfl) ?_
      refine lv_icmp_ge (tgt := 35) hx hb dX8_goOn_15 (by decide) (fun c_2 => ?_) (fun c_2 => ?_)
      · have tc_2 : x_1.toInt ≤ k.toInt := v_le c_2
        exact kl_v hQQ hx hb hr hlocks hS dX8_goOn_35 (fun PZ9 kZ9 => kZ9 re2 la2 su2 le2 (⟨hP, hD⟩) (g_la2) (by show 0 ≤ su2.toInt ∧ su2.toInt ≤ 200 * le2.toInt ∧ 0 ≤ le2.toInt ∧ le2.toInt ≤ re2.toInt ∧ re2.toInt ≤ en.toInt; omega) (hrs2) (Or.inl (by omega)))
      · have tc_2 : k.toInt < x_1.toInt := v_nle c_2
        refine lv_aload_n hx hb dX8_goOn_18 rfl (lv_at hl 2 rfl) ?_
        refine lv_iload_n hx hb dX8_goOn_19 rfl (lv_at hl 3 rfl) ?_
        refine lv_aload_n hx hb dX8_goOn_20 rfl (lv_at hl 4 rfl) ?_
        refine lv_iload_n hx hb dX8_goOn_21 rfl (lv_at hl 5 rfl) ?_
        refine kV_i (rest := []) (q0 := 0) (ci := 8) hcf (f_X8_step l dC dI cI cS H.size oE nu oC oK o4 o5 a41 a42 a43 a51 a52 a53 k1 k2 au cap re2 la2 su2 le2 l4 f41 l5 f51 lK fK1 fK2 lu fu cd en (g_la2) (g_lK) (g_lu) (by omega) (by omega) (hby) (hL4) (hL5) (hT) (ho) (hV) (by omega)) kc_X8_step gX8_goOn_X8_step rfl rfl rfl ⟨Nat.le_of_ble_eq_true rfl, Nat.le_of_ble_eq_true rfl⟩ (kX_1 hN52) hK hP hD hS hA (posT mk_43 0) (posF mk_43 0) (kC_of mk_43 rfl rfl) (by decide +kernel) rfl rfl rfl hl rfl (Nat.le_of_ble_eq_true rfl) dX8_goOn_22 ⟨Nat.le_of_ble_eq_true rfl, Nat.le_of_ble_eq_true rfl⟩ (fun r_3 H locs hB hJ hSn => ?_)
        refine hB _ (fun reE_3 laE_3 suE_3 leE_3 hPD9 hf3_0 hf3_1 hf3_2 hf3_3 => ?_)
        clear hB
        obtain ⟨hPn, hDn⟩ := kJi (m := mk_43) hJ rfl hPD9.1 hPD9.2 (wn := [(oE, .inr (8, [.ref oC, .ref oK, .int reE_3, .int laE_3, .int suE_3, .int leE_3])), (oC, .inr (2, [.ref o4, .ref o5])), (o4, .inr (10, [.ref a41, .ref a42, .ref a43, .int l4])), (a41, .inl (cI, 256, .inl f41)), (o5, .inr (10, [.ref a51, .ref a52, .ref a53, .int l5])), (a51, .inl (cI, 256, .inl f51)), (oK, .inr (3, [.ref k1, .ref k2, .int lK])), (k1, .inl (cI, 1024, .inl fK1)), (k2, .inl (cI, 1024, .inl fK2)), (nu, .inr (5, [.ref au, .int lu])), (au, .inl (cI, cap, .inl fu))]) rfl
        clear hP hD hS hJ hPD9
        have hP := hPn
        have hD := hDn
        have hS := hSn
        clear hPn hDn hSn
        refine lv_if_ne (tgt := 29) hx hb dX8_goOn_25 (by decide) (fun c_4 => ?_) (fun c_4 => ?_)
        · have tc_4 : ¬ r_3.toInt = 0 := v_ne c_4
          have hs19 := s8_1 hf3_3 (by omega)
          obtain ⟨x_5, ex_5⟩ : ∃ y : Int32, y = k + 1 := ⟨_, rfl⟩
          have tx_5 : x_5.toInt = k.toInt + 1 := v_addR (l2 := 1) (h2 := 1) ex_5 g_k (by decide) (by decide) (by decide)
          refine lv_iinc (v := x_5) (lv' := [(5, .int x_5), (4, .int x_1), (0, .ref oE), (1, .int cd), (2, .ref nu), (3, .int en)]) hx hb dX8_goOn_29 hl (k := 0) rfl (by rw [ex_5]; rfl) (by decide) rfl (fun ls hl => ?_)
          refine lv_goto (tgt := 11) hx hb dX8_goOn_32 (by decide) ?_
          exact ih_11 x_5 reE_3 laE_3 suE_3 leE_3 _ _ _ (ms_lt hm_11 (by show ((en.toInt - reE.toInt - x_5.toInt : Int)) < en.toInt - reE.toInt - k.toInt; omega) (by show (0 : Int) < en.toInt - reE.toInt - k.toInt; omega)) (by show 0 ≤ x_5.toInt ∧ x_5.toInt ≤ 2400; omega) (by show 0 ≤ reE_3.toInt ∧ reE_3.toInt ≤ 2400; omega) (hf3_0) (by show 0 ≤ suE_3.toInt ∧ suE_3.toInt ≤ 480000; omega) (by show 0 ≤ leE_3.toInt ∧ leE_3.toInt ≤ 2400; omega) (by show suE_3.toInt ≤ 200 * leE_3.toInt ∧ leE_3.toInt ≤ reE_3.toInt ∧ reE_3.toInt ≤ en.toInt; omega) (by show x_5.toInt ≤ reE_3.toInt - reE.toInt; omega) (RS_s hrs2 hf3_3) hP hD hS (lv_sub hl [0, 1, 2, 3, 4, 5] rfl)
        · have tc_4 : r_3.toInt = 0 := v_eq c_4
          exact kl_v hQQ hx hb hr hlocks hS dX8_goOn_28 (fun PZ9 kZ9 => kZ9 reE_3 laE_3 suE_3 leE_3 (⟨hP, hD⟩) (hf3_0) (by show 0 ≤ suE_3.toInt ∧ suE_3.toInt ≤ 200 * leE_3.toInt ∧ 0 ≤ leE_3.toInt ∧ leE_3.toInt ≤ reE_3.toInt ∧ reE_3.toInt ≤ en.toInt; omega) (RS_s hrs2 hf3_3) (Or.inr (s8_0 hf3_3 (by omega))))
  exact LOOP_11 _ 0 reE laE suE leE _ _ _ (ms_s _) (by decide) (by show 0 ≤ reE.toInt ∧ reE.toInt ≤ 2400; omega) (g_laE) (by show 0 ≤ suE.toInt ∧ suE.toInt ≤ 480000; omega) (by show 0 ≤ leE.toInt ∧ leE.toInt ≤ 2400; omega) (by show suE.toInt ≤ 200 * leE.toInt ∧ leE.toInt ≤ reE.toInt ∧ reE.toInt ≤ en.toInt; omega) (by show 0 ≤ reE.toInt - reE.toInt; omega) (hrs) hP hD hS (lv_sub hl [0, 1, 2, 3, 4, 5] rfl)

set_option maxHeartbeats 40000000 in
set_option maxRecDepth 100000 in
theorem f_X8_sumWith (l : Launch) (dC : Nat → ClassId) (dI : Nat → Nat → Nat) (cI cS : ClassId) (sz : Nat) (oE : Nat) (oC : Nat) (oK : Nat) (k1 : Nat) (k2 : Nat) (reE : Int32) (laE : Int32) (suE : Int32) (leE : Int32) (lK : Int32) (fK1 : Nat → Int32) (fK2 : Nat → Int32) (nx_ : Int32) (g_laE : 0 ≤ laE.toInt ∧ laE.toInt ≤ 65535) (g_suE : 0 ≤ suE.toInt ∧ suE.toInt ≤ 480000) (g_lK : 0 ≤ lK.toInt ∧ lK.toInt ≤ 300) (g_nx_ : 0 ≤ nx_.toInt ∧ nx_.toInt ≤ 65535) (hT : HT 1024 1023 hsK fK1 fK2) (ho : (occ fK2 1024 : Int) ≤ lK.toInt) (hV : prg 1024 (-1) 200 fK2) : kMi l yX8_sumWith wsX8_sumWith ({ frames := 3, cells := 0, slots := 0, locals := 73 } : Room) [.ref oE, .int nx_] sz (dC, dI) vwCl [(cI, .int), (cS, .short)] [(oE, .inr (8, [.ref oC, .ref oK, .int reE, .int laE, .int suE, .int leE])), (oK, .inr (3, [.ref k1, .ref k2, .int lK])), (k1, .inl (cI, 1024, .inl fK1)), (k2, .inl (cI, 1024, .inl fK2))] (fun _ => True) 0 0 (fun (A : Nat → Prop) (r : Int32) (hh9 : Heap) => ∀ PZ9 : Prop, (kPD (dC, dI) vwCl A [(oE, .inr (8, [.ref oC, .ref oK, .int reE, .int laE, .int suE, .int leE])), (oK, .inr (3, [.ref k1, .ref k2, .int lK])), (k1, .inl (cI, 1024, .inl fK1)), (k2, .inl (cI, 1024, .inl fK2))] hh9 → (suE.toInt ≤ r.toInt ∧ r.toInt ≤ suE.toInt + 200) → (r.toInt = suE.toInt + cF (tcC fK1 fK2 laE nx_) laE nx_) → PZ9) → PZ9) := by
  refine kMi_of (cc := cX8_sumWith) (maxL := 2) (ret := (some .int)) (lv := [(0, .ref oE), (1, .int nx_)]) (by decide +kernel) rfl rfl (Nat.le_of_ble_eq_true rfl) ?_
  intro p e s m below meth c A QQ ls hx hb hr hts hml hown hlocks hA hQQ hK hX hP hD hS hl
  have hown : s.vm.findClass RX8 = some m.cls := hown
  have hcf := k_cf hx hb hml hown hts
  have in_X8 : ∀ w ∈ wsX80, w ∈ wsX8_sumWith := fun _ h => List.mem_cons_of_mem _ (List.mem_append_left _ (List.mem_append_left _ (List.mem_append_right _ (h))))
  refine lv_aload_n hx hb dX8_sumWith_0 rfl (lv_at hl 0 rfl) ?_
  refine va_get (D := (dC, dI)) (ci := 8) (v := .int suE) (C := RX8) (T := TX8) (N := 6) hx hb hts in_X8 hown hK hP 0 rfl rfl 4 (Nat.le_of_ble_eq_true rfl) (hts (.fieldLink RX8 26 "TextMender$Reading" "sum" "I") (List.mem_of_getElem? (i := 1) rfl)) (fun _ h9 => h9) rfl dX8_sumWith_1 ?_
  refine lv_aload_n hx hb dX8_sumWith_4 rfl (lv_at hl 0 rfl) ?_
  refine va_get (D := (dC, dI)) (ci := 8) (v := .ref oK) (C := RX8) (T := TX8) (N := 6) hx hb hts in_X8 hown hK hP 0 rfl rfl 1 (Nat.le_of_ble_eq_true rfl) (hts (.fieldLink RX8 15 "TextMender$Reading" "costs" "LTextMender$Costs;") (List.mem_of_getElem? (i := 2) rfl)) (fun _ h9 => h9) rfl dX8_sumWith_5 ?_
  refine lv_aload_n hx hb dX8_sumWith_8 rfl (lv_at hl 0 rfl) ?_
  refine va_get (D := (dC, dI)) (ci := 8) (v := .int laE) (C := RX8) (T := TX8) (N := 6) hx hb hts in_X8 hown hK hP 0 rfl rfl 3 (Nat.le_of_ble_eq_true rfl) (hts (.fieldLink RX8 23 "TextMender$Reading" "latest" "I") (List.mem_of_getElem? (i := 3) rfl)) (fun _ h9 => h9) rfl dX8_sumWith_9 ?_
  refine lv_iload_n hx hb dX8_sumWith_12 rfl (lv_at hl 1 rfl) ?_
  refine kV_i (rest := [.int suE]) (q0 := 0) (ci := 3) hcf (f_X3_of l dC dI cI cS s.heap.size oK k1 k2 lK fK1 fK2 laE nx_ (g_lK) (g_laE) (g_nx_) (hT) (ho) (hV)) kc_X3_of gX8_sumWith_X3_of rfl rfl rfl ⟨Nat.le_of_ble_eq_true rfl, Nat.le_of_ble_eq_true rfl⟩ kX_t hK hP hD hS hA [1, 2, 3] [0] rfl (by decide +kernel) rfl rfl rfl hl rfl (Nat.le_of_ble_eq_true rfl) dX8_sumWith_13 ⟨Nat.le_of_ble_eq_true rfl, Nat.le_of_ble_eq_true rfl⟩ (fun r_1 H locs hB hJ hSn => ?_)
  refine hB _ (fun hPD9 hf1_0 hf1_1 => ?_)
  clear hB
  obtain ⟨hPn, hDn⟩ := hJ _ hPD9.1 hPD9.2 [(oE, .inr (8, [.ref oC, .ref oK, .int reE, .int laE, .int suE, .int leE])), (oK, .inr (3, [.ref k1, .ref k2, .int lK])), (k1, .inl (cI, 1024, .inl fK1)), (k2, .inl (cI, 1024, .inl fK2))] rfl
  clear hP hD hS hJ hPD9
  have hP := hPn
  have hD := hDn
  have hS := hSn
  clear hPn hDn hSn
  refine lv_iadd hx hb dX8_sumWith_16 ?_
  refine lv_topi (fun x_2 ex_2 => ?_)
  have tx_2 : x_2.toInt = suE.toInt + r_1.toInt := v_addR ex_2 g_suE hf1_0 (by decide) (by decide)
  exact kl_i (v := x_2) hQQ hx hb hr hlocks hS dX8_sumWith_17 (fun PZ9 kZ9 => kZ9 (⟨hP, hD⟩) (by show suE.toInt ≤ x_2.toInt ∧ x_2.toInt ≤ suE.toInt + 200; omega) (by have q9 := hf1_1; omega))

set_option maxHeartbeats 40000000 in
set_option maxRecDepth 100000 in
theorem f_X8_begin (l : Launch) (dC : Nat → ClassId) (dI : Nat → Nat → Nat) (cI cS : ClassId) (sz : Nat) (oE : Nat) (oC : Nat) (oK : Nat) (reE : Int32) (laE : Int32) (suE : Int32) (leE : Int32)  : kMv l yX8_begin wsX8_begin ({ frames := 0, cells := 0, slots := 0, locals := 0 } : Room) [.ref oE] sz (dC, dI) vwCl [(cI, .int), (cS, .short)] [(oE, .inr (8, [.ref oC, .ref oK, .int reE, .int laE, .int suE, .int leE]))] (fun _ => True) 0 0 (fun (A : Nat → Prop) (hh9 : Heap) => ∀ PZ9 : Prop, (∀ (reE' : Int32) (laE' : Int32) (suE' : Int32) (leE' : Int32), kPD (dC, dI) vwCl A [(oE, .inr (8, [.ref oC, .ref oK, .int reE', .int laE', .int suE', .int leE']))] hh9 → (reE' = 0 ∧ laE' = 32 ∧ suE' = 0 ∧ leE' = 0) → PZ9) → PZ9) := by
  refine kMv_of (cc := cX8_begin) (maxL := 1) (ret := none) (lv := [(0, .ref oE)]) (by decide +kernel) rfl rfl (Nat.le_of_ble_eq_true rfl) ?_
  intro p e s m below meth c A QQ ls hx hb hr hts hml hown hlocks hA hQQ hK hX hP hD hS hl
  have hown : s.vm.findClass RX8 = some m.cls := hown
  have hcf := k_cf hx hb hml hown hts
  have in_X8 : ∀ w ∈ wsX80, w ∈ wsX8_begin := fun _ h => List.mem_cons_of_mem _ (List.mem_append_right _ (h))
  refine lv_aload_n hx hb dX8_begin_0 rfl (lv_at hl 0 rfl) ?_
  refine lv_iconst (v := 0) hx hb dX8_begin_1 (by decide) ?_
  refine va_put (D := (dC, dI)) (ci := 8) (v := .int 0) (ty := .int) (C := RX8) (T := TX8) (N := 6) hx hb hts in_X8 tyX8 tyX8_ok nmX8 hown hK hP hD hS 0 rfl rfl 2 (Nat.le_of_ble_eq_true rfl) (hts (.fieldLink RX8 19 "TextMender$Reading" "reached" "I") (List.mem_of_getElem? (i := 1) rfl)) (fun _ h9 => h9) rfl (tyX8_ok 2 (Nat.le_of_ble_eq_true rfl)) rfl rfl (Nat.le_of_ble_eq_true rfl) dX8_begin_2 (kW (wn := [(oE, .inr (8, [.ref oC, .ref oK, .int 0, .int laE, .int suE, .int leE]))]) rfl (fun H locs hPn hDn hSn => ?_))
  clear hP hD hS
  have hP := hPn
  have hD := hDn
  have hS := hSn
  clear hPn hDn hSn
  refine lv_aload_n hx hb dX8_begin_5 rfl (lv_at hl 0 rfl) ?_
  refine lv_bipush (v := 32) hx hb dX8_begin_6 (by decide) ?_
  refine va_put (D := (dC, dI)) (ci := 8) (v := .int 32) (ty := .int) (C := RX8) (T := TX8) (N := 6) hx hb hts in_X8 tyX8 tyX8_ok nmX8 hown hK hP hD hS 0 rfl rfl 3 (Nat.le_of_ble_eq_true rfl) (hts (.fieldLink RX8 23 "TextMender$Reading" "latest" "I") (List.mem_of_getElem? (i := 2) rfl)) (fun _ h9 => h9) rfl (tyX8_ok 3 (Nat.le_of_ble_eq_true rfl)) rfl rfl (Nat.le_of_ble_eq_true rfl) dX8_begin_8 (kW (wn := [(oE, .inr (8, [.ref oC, .ref oK, .int 0, .int 32, .int suE, .int leE]))]) rfl (fun H locs hPn hDn hSn => ?_))
  clear hP hD hS
  have hP := hPn
  have hD := hDn
  have hS := hSn
  clear hPn hDn hSn
  refine lv_aload_n hx hb dX8_begin_11 rfl (lv_at hl 0 rfl) ?_
  refine lv_iconst (v := 0) hx hb dX8_begin_12 (by decide) ?_
  refine va_put (D := (dC, dI)) (ci := 8) (v := .int 0) (ty := .int) (C := RX8) (T := TX8) (N := 6) hx hb hts in_X8 tyX8 tyX8_ok nmX8 hown hK hP hD hS 0 rfl rfl 4 (Nat.le_of_ble_eq_true rfl) (hts (.fieldLink RX8 26 "TextMender$Reading" "sum" "I") (List.mem_of_getElem? (i := 3) rfl)) (fun _ h9 => h9) rfl (tyX8_ok 4 (Nat.le_of_ble_eq_true rfl)) rfl rfl (Nat.le_of_ble_eq_true rfl) dX8_begin_13 (kW (wn := [(oE, .inr (8, [.ref oC, .ref oK, .int 0, .int 32, .int 0, .int leE]))]) rfl (fun H locs hPn hDn hSn => ?_))
  clear hP hD hS
  have hP := hPn
  have hD := hDn
  have hS := hSn
  clear hPn hDn hSn
  refine lv_aload_n hx hb dX8_begin_16 rfl (lv_at hl 0 rfl) ?_
  refine lv_iconst (v := 0) hx hb dX8_begin_17 (by decide) ?_
  refine va_put (D := (dC, dI)) (ci := 8) (v := .int 0) (ty := .int) (C := RX8) (T := TX8) (N := 6) hx hb hts in_X8 tyX8 tyX8_ok nmX8 hown hK hP hD hS 0 rfl rfl 5 (Nat.le_of_ble_eq_true rfl) (hts (.fieldLink RX8 29 "TextMender$Reading" "letters" "I") (List.mem_of_getElem? (i := 4) rfl)) (fun _ h9 => h9) rfl (tyX8_ok 5 (Nat.le_of_ble_eq_true rfl)) rfl rfl (Nat.le_of_ble_eq_true rfl) dX8_begin_18 (kW (wn := [(oE, .inr (8, [.ref oC, .ref oK, .int 0, .int 32, .int 0, .int 0]))]) rfl (fun H locs hPn hDn hSn => ?_))
  clear hP hD hS
  have hP := hPn
  have hD := hDn
  have hS := hSn
  clear hPn hDn hSn
  exact kl_v hQQ hx hb hr hlocks hS dX8_begin_21 (fun PZ9 kZ9 => kZ9 0 32 0 0 (⟨hP, hD⟩) (⟨rfl, rfl, rfl, rfl⟩))

set_option maxHeartbeats 40000000 in
set_option maxRecDepth 100000 in
theorem f_X8_takeAll (l : Launch) (dC : Nat → ClassId) (dI : Nat → Nat → Nat) (cI cS : ClassId) (sz : Nat) (oE : Nat) (oD : Nat) (oC : Nat) (oK : Nat) (reE : Int32) (laE : Int32) (suE : Int32) (leE : Int32) (reD : Int32) (laD : Int32) (suD : Int32) (leD : Int32)  : kMv l yX8_takeAll wsX8_takeAll ({ frames := 0, cells := 0, slots := 0, locals := 0 } : Room) [.ref oE, .ref oD] sz (dC, dI) vwCl [(cI, .int), (cS, .short)] [(oE, .inr (8, [.ref oC, .ref oK, .int reE, .int laE, .int suE, .int leE])), (oD, .inr (8, [.ref oC, .ref oK, .int reD, .int laD, .int suD, .int leD]))] (fun _ => True) 0 0 (fun (A : Nat → Prop) (hh9 : Heap) => ∀ PZ9 : Prop, (∀ (reE' : Int32) (laE' : Int32) (suE' : Int32) (leE' : Int32), kPD (dC, dI) vwCl A [(oE, .inr (8, [.ref oC, .ref oK, .int reE', .int laE', .int suE', .int leE'])), (oD, .inr (8, [.ref oC, .ref oK, .int reD, .int laD, .int suD, .int leD]))] hh9 → (reE' = reD ∧ laE' = laD ∧ suE' = suD ∧ leE' = leD) → PZ9) → PZ9) := by
  refine kMv_of (cc := cX8_takeAll) (maxL := 2) (ret := none) (lv := [(0, .ref oE), (1, .ref oD)]) (by decide +kernel) rfl rfl (Nat.le_of_ble_eq_true rfl) ?_
  intro p e s m below meth c A QQ ls hx hb hr hts hml hown hlocks hA hQQ hK hX hP hD hS hl
  have hown : s.vm.findClass RX8 = some m.cls := hown
  have hcf := k_cf hx hb hml hown hts
  have in_X8 : ∀ w ∈ wsX80, w ∈ wsX8_takeAll := fun _ h => List.mem_cons_of_mem _ (List.mem_append_right _ (h))
  refine lv_aload_n hx hb dX8_takeAll_0 rfl (lv_at hl 0 rfl) ?_
  refine lv_aload_n hx hb dX8_takeAll_1 rfl (lv_at hl 1 rfl) ?_
  refine va_get (D := (dC, dI)) (ci := 8) (v := .int reD) (C := RX8) (T := TX8) (N := 6) hx hb hts in_X8 hown hK hP 1 rfl rfl 2 (Nat.le_of_ble_eq_true rfl) (hts (.fieldLink RX8 19 "TextMender$Reading" "reached" "I") (List.mem_of_getElem? (i := 1) rfl)) (fun _ h9 => h9) rfl dX8_takeAll_2 ?_
  refine va_put (D := (dC, dI)) (ci := 8) (v := .int reD) (ty := .int) (C := RX8) (T := TX8) (N := 6) hx hb hts in_X8 tyX8 tyX8_ok nmX8 hown hK hP hD hS 0 rfl rfl 2 (Nat.le_of_ble_eq_true rfl) (hts (.fieldLink RX8 19 "TextMender$Reading" "reached" "I") (List.mem_of_getElem? (i := 1) rfl)) (fun _ h9 => h9) rfl (tyX8_ok 2 (Nat.le_of_ble_eq_true rfl)) rfl rfl (Nat.le_of_ble_eq_true rfl) dX8_takeAll_5 (kW (wn := [(oE, .inr (8, [.ref oC, .ref oK, .int reD, .int laE, .int suE, .int leE])), (oD, .inr (8, [.ref oC, .ref oK, .int reD, .int laD, .int suD, .int leD]))]) rfl (fun H locs hPn hDn hSn => ?_))
  clear hP hD hS
  have hP := hPn
  have hD := hDn
  have hS := hSn
  clear hPn hDn hSn
  refine lv_aload_n hx hb dX8_takeAll_8 rfl (lv_at hl 0 rfl) ?_
  refine lv_aload_n hx hb dX8_takeAll_9 rfl (lv_at hl 1 rfl) ?_
  refine va_get (D := (dC, dI)) (ci := 8) (v := .int laD) (C := RX8) (T := TX8) (N := 6) hx hb hts in_X8 hown hK hP 1 rfl rfl 3 (Nat.le_of_ble_eq_true rfl) (hts (.fieldLink RX8 23 "TextMender$Reading" "latest" "I") (List.mem_of_getElem? (i := 2) rfl)) (fun _ h9 => h9) rfl dX8_takeAll_10 ?_
  refine va_put (D := (dC, dI)) (ci := 8) (v := .int laD) (ty := .int) (C := RX8) (T := TX8) (N := 6) hx hb hts in_X8 tyX8 tyX8_ok nmX8 hown hK hP hD hS 0 rfl rfl 3 (Nat.le_of_ble_eq_true rfl) (hts (.fieldLink RX8 23 "TextMender$Reading" "latest" "I") (List.mem_of_getElem? (i := 2) rfl)) (fun _ h9 => h9) rfl (tyX8_ok 3 (Nat.le_of_ble_eq_true rfl)) rfl rfl (Nat.le_of_ble_eq_true rfl) dX8_takeAll_13 (kW (wn := [(oE, .inr (8, [.ref oC, .ref oK, .int reD, .int laD, .int suE, .int leE])), (oD, .inr (8, [.ref oC, .ref oK, .int reD, .int laD, .int suD, .int leD]))]) rfl (fun H locs hPn hDn hSn => ?_))
  clear hP hD hS
  have hP := hPn
  have hD := hDn
  have hS := hSn
  clear hPn hDn hSn
  refine lv_aload_n hx hb dX8_takeAll_16 rfl (lv_at hl 0 rfl) ?_
  refine lv_aload_n hx hb dX8_takeAll_17 rfl (lv_at hl 1 rfl) ?_
  refine va_get (D := (dC, dI)) (ci := 8) (v := .int suD) (C := RX8) (T := TX8) (N := 6) hx hb hts in_X8 hown hK hP 1 rfl rfl 4 (Nat.le_of_ble_eq_true rfl) (hts (.fieldLink RX8 26 "TextMender$Reading" "sum" "I") (List.mem_of_getElem? (i := 3) rfl)) (fun _ h9 => h9) rfl dX8_takeAll_18 ?_
  refine va_put (D := (dC, dI)) (ci := 8) (v := .int suD) (ty := .int) (C := RX8) (T := TX8) (N := 6) hx hb hts in_X8 tyX8 tyX8_ok nmX8 hown hK hP hD hS 0 rfl rfl 4 (Nat.le_of_ble_eq_true rfl) (hts (.fieldLink RX8 26 "TextMender$Reading" "sum" "I") (List.mem_of_getElem? (i := 3) rfl)) (fun _ h9 => h9) rfl (tyX8_ok 4 (Nat.le_of_ble_eq_true rfl)) rfl rfl (Nat.le_of_ble_eq_true rfl) dX8_takeAll_21 (kW (wn := [(oE, .inr (8, [.ref oC, .ref oK, .int reD, .int laD, .int suD, .int leE])), (oD, .inr (8, [.ref oC, .ref oK, .int reD, .int laD, .int suD, .int leD]))]) rfl (fun H locs hPn hDn hSn => ?_))
  clear hP hD hS
  have hP := hPn
  have hD := hDn
  have hS := hSn
  clear hPn hDn hSn
  refine lv_aload_n hx hb dX8_takeAll_24 rfl (lv_at hl 0 rfl) ?_
  refine lv_aload_n hx hb dX8_takeAll_25 rfl (lv_at hl 1 rfl) ?_
  refine va_get (D := (dC, dI)) (ci := 8) (v := .int leD) (C := RX8) (T := TX8) (N := 6) hx hb hts in_X8 hown hK hP 1 rfl rfl 5 (Nat.le_of_ble_eq_true rfl) (hts (.fieldLink RX8 29 "TextMender$Reading" "letters" "I") (List.mem_of_getElem? (i := 4) rfl)) (fun _ h9 => h9) rfl dX8_takeAll_26 ?_
  refine va_put (D := (dC, dI)) (ci := 8) (v := .int leD) (ty := .int) (C := RX8) (T := TX8) (N := 6) hx hb hts in_X8 tyX8 tyX8_ok nmX8 hown hK hP hD hS 0 rfl rfl 5 (Nat.le_of_ble_eq_true rfl) (hts (.fieldLink RX8 29 "TextMender$Reading" "letters" "I") (List.mem_of_getElem? (i := 4) rfl)) (fun _ h9 => h9) rfl (tyX8_ok 5 (Nat.le_of_ble_eq_true rfl)) rfl rfl (Nat.le_of_ble_eq_true rfl) dX8_takeAll_29 (kW (wn := [(oE, .inr (8, [.ref oC, .ref oK, .int reD, .int laD, .int suD, .int leD])), (oD, .inr (8, [.ref oC, .ref oK, .int reD, .int laD, .int suD, .int leD]))]) rfl (fun H locs hPn hDn hSn => ?_))
  clear hP hD hS
  have hP := hPn
  have hD := hDn
  have hS := hSn
  clear hPn hDn hSn
  exact kl_v hQQ hx hb hr hlocks hS dX8_takeAll_32 (fun PZ9 kZ9 => kZ9 reD laD suD leD (⟨hP, hD⟩) (⟨rfl, rfl, rfl, rfl⟩))

set_option maxHeartbeats 40000000 in
set_option maxRecDepth 100000 in
theorem f_X4_writtenIn (l : Launch) (dC : Nat → ClassId) (dI : Nat → Nat → Nat) (cI cS : ClassId) (sz : Nat) (oH : Nat) (oP : Nat) (h1 : Nat) (h2 : Nat) (lH : Int32) (fH1 : Nat → Int32) (h : Int32) (g_lH : 0 ≤ lH.toInt ∧ lH.toInt ≤ 6) (g_h : 0 ≤ h.toInt ∧ h.toInt ≤ 5) (hh : h.toInt < lH.toInt) : kMi l yX4_writtenIn wsX4_writtenIn ({ frames := 0, cells := 0, slots := 0, locals := 0 } : Room) [.ref oH, .int h] sz (dC, dI) vwCl [(cI, .int), (cS, .short)] [(oH, .inr (4, [.ref oP, .ref h1, .ref h2, .int lH])), (h1, .inl (cI, 6, .inl fH1))] (fun _ => True) 0 0 (fun (A : Nat → Prop) (r : Int32) (hh9 : Heap) => ∀ PZ9 : Prop, (kPD (dC, dI) vwCl A [(oH, .inr (4, [.ref oP, .ref h1, .ref h2, .int lH])), (h1, .inl (cI, 6, .inl fH1))] hh9 → (r = fH1 h.toNatClampNeg) → PZ9) → PZ9) := by
  refine kMi_of (cc := cX4_writtenIn) (maxL := 2) (ret := (some .int)) (lv := [(0, .ref oH), (1, .int h)]) (by decide +kernel) rfl rfl (Nat.le_of_ble_eq_true rfl) ?_
  intro p e s m below meth c A QQ ls hx hb hr hts hml hown hlocks hA hQQ hK hX hP hD hS hl
  have hown : s.vm.findClass RX4 = some m.cls := hown
  have hcf := k_cf hx hb hml hown hts
  have in_X4 : ∀ w ∈ wsX40, w ∈ wsX4_writtenIn := fun _ h => List.mem_cons_of_mem _ (List.mem_append_right _ (h))
  refine lv_iload_n hx hb dX4_writtenIn_0 rfl (lv_at hl 1 rfl) ?_
  refine lv_if_lt (tgt := 21) hx hb dX4_writtenIn_1 (by decide) (fun c_1 => by exfalso; have tc_1 : h.toInt < 0 := v_lt c_1; omega) (fun c_1 => ?_)
  have tc_1 : 0 ≤ h.toInt := v_nlt c_1
  refine lv_iload_n hx hb dX4_writtenIn_4 rfl (lv_at hl 1 rfl) ?_
  refine lv_aload_n hx hb dX4_writtenIn_5 rfl (lv_at hl 0 rfl) ?_
  refine va_get (D := (dC, dI)) (ci := 4) (v := .int lH) (C := RX4) (T := TX4) (N := 4) hx hb hts in_X4 hown hK hP 0 rfl rfl 3 (Nat.le_of_ble_eq_true rfl) (hts (.fieldLink RX4 22 "TextMender$Harms" "length" "I") (List.mem_of_getElem? (i := 1) rfl)) (fun _ h9 => h9) rfl dX4_writtenIn_6 ?_
  refine lv_icmp_ge (tgt := 21) hx hb dX4_writtenIn_9 (by decide) (fun c_2 => by exfalso; have tc_2 : lH.toInt ≤ h.toInt := v_le c_2; omega) (fun c_2 => ?_)
  have tc_2 : h.toInt < lH.toInt := v_nle c_2
  refine lv_aload_n hx hb dX4_writtenIn_12 rfl (lv_at hl 0 rfl) ?_
  refine va_get (D := (dC, dI)) (ci := 4) (v := .ref h1) (C := RX4) (T := TX4) (N := 4) hx hb hts in_X4 hown hK hP 0 rfl rfl 1 (Nat.le_of_ble_eq_true rfl) (hts (.fieldLink RX4 9 "TextMender$Harms" "writtenIn" "[I") (List.mem_of_getElem? (i := 2) rfl)) (fun _ h9 => h9) rfl dX4_writtenIn_13 ?_
  refine lv_iload_n hx hb dX4_writtenIn_16 rfl (lv_at hl 1 rfl) ?_
  refine va_iald hx hb hK hP 1 0 rfl rfl (v_inR g_h (by decide) (by decide)) dX4_writtenIn_17 ?_
  refine lv_topi (fun x_3 ex_3 => ?_)
  refine lv_goto (tgt := 22) hx hb dX4_writtenIn_18 (by decide) ?_
  exact kl_i (v := x_3) hQQ hx hb hr hlocks hS dX4_writtenIn_22 (fun PZ9 kZ9 => kZ9 (⟨hP, hD⟩) (ex_3))

set_option maxHeartbeats 40000000 in
set_option maxRecDepth 100000 in
theorem f_X4_readIn (l : Launch) (dC : Nat → ClassId) (dI : Nat → Nat → Nat) (cI cS : ClassId) (sz : Nat) (oH : Nat) (oP : Nat) (h1 : Nat) (h2 : Nat) (lH : Int32) (fH2 : Nat → Int32) (h : Int32) (g_lH : 0 ≤ lH.toInt ∧ lH.toInt ≤ 6) (g_h : 0 ≤ h.toInt ∧ h.toInt ≤ 5) (hh : h.toInt < lH.toInt) : kMi l yX4_readIn wsX4_readIn ({ frames := 0, cells := 0, slots := 0, locals := 0 } : Room) [.ref oH, .int h] sz (dC, dI) vwCl [(cI, .int), (cS, .short)] [(oH, .inr (4, [.ref oP, .ref h1, .ref h2, .int lH])), (h2, .inl (cI, 6, .inl fH2))] (fun _ => True) 0 0 (fun (A : Nat → Prop) (r : Int32) (hh9 : Heap) => ∀ PZ9 : Prop, (kPD (dC, dI) vwCl A [(oH, .inr (4, [.ref oP, .ref h1, .ref h2, .int lH])), (h2, .inl (cI, 6, .inl fH2))] hh9 → (r = fH2 h.toNatClampNeg) → PZ9) → PZ9) := by
  refine kMi_of (cc := cX4_readIn) (maxL := 2) (ret := (some .int)) (lv := [(0, .ref oH), (1, .int h)]) (by decide +kernel) rfl rfl (Nat.le_of_ble_eq_true rfl) ?_
  intro p e s m below meth c A QQ ls hx hb hr hts hml hown hlocks hA hQQ hK hX hP hD hS hl
  have hown : s.vm.findClass RX4 = some m.cls := hown
  have hcf := k_cf hx hb hml hown hts
  have in_X4 : ∀ w ∈ wsX40, w ∈ wsX4_readIn := fun _ h => List.mem_cons_of_mem _ (List.mem_append_right _ (h))
  refine lv_iload_n hx hb dX4_readIn_0 rfl (lv_at hl 1 rfl) ?_
  refine lv_if_lt (tgt := 21) hx hb dX4_readIn_1 (by decide) (fun c_1 => by exfalso; have tc_1 : h.toInt < 0 := v_lt c_1; omega) (fun c_1 => ?_)
  have tc_1 : 0 ≤ h.toInt := v_nlt c_1
  refine lv_iload_n hx hb dX4_readIn_4 rfl (lv_at hl 1 rfl) ?_
  refine lv_aload_n hx hb dX4_readIn_5 rfl (lv_at hl 0 rfl) ?_
  refine va_get (D := (dC, dI)) (ci := 4) (v := .int lH) (C := RX4) (T := TX4) (N := 4) hx hb hts in_X4 hown hK hP 0 rfl rfl 3 (Nat.le_of_ble_eq_true rfl) (hts (.fieldLink RX4 22 "TextMender$Harms" "length" "I") (List.mem_of_getElem? (i := 1) rfl)) (fun _ h9 => h9) rfl dX4_readIn_6 ?_
  refine lv_icmp_ge (tgt := 21) hx hb dX4_readIn_9 (by decide) (fun c_2 => by exfalso; have tc_2 : lH.toInt ≤ h.toInt := v_le c_2; omega) (fun c_2 => ?_)
  have tc_2 : h.toInt < lH.toInt := v_nle c_2
  refine lv_aload_n hx hb dX4_readIn_12 rfl (lv_at hl 0 rfl) ?_
  refine va_get (D := (dC, dI)) (ci := 4) (v := .ref h2) (C := RX4) (T := TX4) (N := 4) hx hb hts in_X4 hown hK hP 0 rfl rfl 2 (Nat.le_of_ble_eq_true rfl) (hts (.fieldLink RX4 15 "TextMender$Harms" "readIn" "[I") (List.mem_of_getElem? (i := 2) rfl)) (fun _ h9 => h9) rfl dX4_readIn_13 ?_
  refine lv_iload_n hx hb dX4_readIn_16 rfl (lv_at hl 1 rfl) ?_
  refine va_iald hx hb hK hP 1 0 rfl rfl (v_inR g_h (by decide) (by decide)) dX4_readIn_17 ?_
  refine lv_topi (fun x_3 ex_3 => ?_)
  refine lv_goto (tgt := 22) hx hb dX4_readIn_18 (by decide) ?_
  exact kl_i (v := x_3) hQQ hx hb hr hlocks hS dX4_readIn_22 (fun PZ9 kZ9 => kZ9 (⟨hP, hD⟩) (ex_3))

set_option maxHeartbeats 40000000 in
set_option maxRecDepth 100000 in
theorem f_X6_isBetter (l : Launch) (dC : Nat → ClassId) (dI : Nat → Nat → Nat) (cI cS : ClassId) (sz : Nat) (oQ : Nat) (oC : Nat) (oH : Nat) (oK : Nat) (oE : Nat) (nq : Nat) (np : Nat) (nv : Nat) (q1 : Nat) (q2 : Nat) (q3 : Nat) (q4 : Nat) (pr : Int32) (fQ1 : Nat → Int32) (fQ2 : Nat → Int32) (fQ3 : Nat → Int32) (fr : Int32) (sm : Int32) (sp : Int32) (en : Int32) (g_fr : 0 ≤ fr.toInt ∧ fr.toInt ≤ 60) : kMi l yX6_isBetter wsX6_isBetter ({ frames := 0, cells := 0, slots := 0, locals := 0 } : Room) [.ref oQ, .int fr, .int sm, .int sp, .int en] sz (dC, dI) vwCl [(cI, .int), (cS, .short)] [(oQ, .inr (6, [.ref oC, .ref oH, .ref oK, .ref oE, .ref nq, .ref np, .ref nv, .ref q1, .ref q2, .ref q3, .ref q4, .int pr])), (q1, .inl (cI, 61, .inl fQ1)), (q2, .inl (cI, 61, .inl fQ2)), (q3, .inl (cI, 61, .inl fQ3))] (fun _ => True) 0 0 (fun (A : Nat → Prop) (r : Int32) (hh9 : Heap) => ∀ PZ9 : Prop, (kPD (dC, dI) vwCl A [(oQ, .inr (6, [.ref oC, .ref oH, .ref oK, .ref oE, .ref nq, .ref np, .ref nv, .ref q1, .ref q2, .ref q3, .ref q4, .int pr])), (q1, .inl (cI, 61, .inl fQ1)), (q2, .inl (cI, 61, .inl fQ2)), (q3, .inl (cI, 61, .inl fQ3))] hh9 → (0 ≤ r.toInt ∧ r.toInt ≤ 1) → (F_ib r sm.toInt sp.toInt en.toInt (fQ1 fr.toNatClampNeg).toInt (fQ2 fr.toNatClampNeg).toInt (fQ3 fr.toNatClampNeg).toInt) → PZ9) → PZ9) := by
  refine kMi_of (cc := cX6_isBetter) (maxL := 5) (ret := (some .boolean)) (lv := [(0, .ref oQ), (1, .int fr), (2, .int sm), (3, .int sp), (4, .int en)]) (by decide +kernel) rfl rfl (Nat.le_of_ble_eq_true rfl) ?_
  intro p e s m below meth c A QQ ls hx hb hr hts hml hown hlocks hA hQQ hK hX hP hD hS hl
  have hown : s.vm.findClass RX6 = some m.cls := hown
  have hcf := k_cf hx hb hml hown hts
  have in_X6 : ∀ w ∈ wsX60, w ∈ wsX6_isBetter := fun _ h => List.mem_cons_of_mem _ (List.mem_append_right _ (h))
  refine lv_iload_n hx hb dX6_isBetter_0 rfl (lv_at hl 2 rfl) ?_
  refine lv_aload_n hx hb dX6_isBetter_1 rfl (lv_at hl 0 rfl) ?_
  refine va_get (D := (dC, dI)) (ci := 6) (v := .ref q1) (C := RX6) (T := TX6) (N := 12) hx hb hts in_X6 hown hK hP 0 rfl rfl 7 (Nat.le_of_ble_eq_true rfl) (hts (.fieldLink RX6 26 "TextMender$Parting" "leastCost" "[I") (List.mem_of_getElem? (i := 1) rfl)) (fun _ h9 => h9) rfl dX6_isBetter_2 ?_
  refine lv_iload_n hx hb dX6_isBetter_5 rfl (lv_at hl 1 rfl) ?_
  refine va_iald hx hb hK hP 1 0 rfl rfl (v_inR g_fr (by decide) (by decide)) dX6_isBetter_6 ?_
  refine lv_topi (fun x_1 ex_1 => ?_)
  refine lv_icmp_eq (tgt := 26) hx hb dX6_isBetter_7 (by decide) (fun c_2 => ?_) (fun c_2 => ?_)
  · have tc_2 : sm.toInt = x_1.toInt := v_eq c_2
    have rw2_0 := v_rng sm
    have rw2_1 := v_rng x_1
    refine lv_iload_n hx hb dX6_isBetter_26 rfl (lv_at hl 3 rfl) ?_
    refine lv_aload_n hx hb dX6_isBetter_27 rfl (lv_at hl 0 rfl) ?_
    refine va_get (D := (dC, dI)) (ci := 6) (v := .ref q2) (C := RX6) (T := TX6) (N := 12) hx hb hts in_X6 hown hK hP 0 rfl rfl 8 (Nat.le_of_ble_eq_true rfl) (hts (.fieldLink RX6 30 "TextMender$Parting" "spansFrom" "[I") (List.mem_of_getElem? (i := 2) rfl)) (fun _ h9 => h9) rfl dX6_isBetter_28 ?_
    refine lv_iload_n hx hb dX6_isBetter_31 rfl (lv_at hl 1 rfl) ?_
    refine va_iald hx hb hK hP 2 0 rfl rfl (v_inR g_fr (by decide) (by decide)) dX6_isBetter_32 ?_
    refine lv_topi (fun x_3 ex_3 => ?_)
    refine lv_icmp_eq (tgt := 52) hx hb dX6_isBetter_33 (by decide) (fun c_4 => ?_) (fun c_4 => ?_)
    · have tc_4 : sp.toInt = x_3.toInt := v_eq c_4
      have rw4_0 := v_rng sp
      have rw4_1 := v_rng x_3
      refine lv_iload hx hb dX6_isBetter_52 (lv_at hl 4 rfl) ?_
      refine lv_aload_n hx hb dX6_isBetter_54 rfl (lv_at hl 0 rfl) ?_
      refine va_get (D := (dC, dI)) (ci := 6) (v := .ref q3) (C := RX6) (T := TX6) (N := 12) hx hb hts in_X6 hown hK hP 0 rfl rfl 9 (Nat.le_of_ble_eq_true rfl) (hts (.fieldLink RX6 33 "TextMender$Parting" "endOf" "[I") (List.mem_of_getElem? (i := 3) rfl)) (fun _ h9 => h9) rfl dX6_isBetter_55 ?_
      refine lv_iload_n hx hb dX6_isBetter_58 rfl (lv_at hl 1 rfl) ?_
      refine va_iald hx hb hK hP 3 0 rfl rfl (v_inR g_fr (by decide) (by decide)) dX6_isBetter_59 ?_
      refine lv_topi (fun x_5 ex_5 => ?_)
      refine lv_icmp_le (tgt := 67) hx hb dX6_isBetter_60 (by decide) (fun c_6 => ?_) (fun c_6 => ?_)
      · have tc_6 : en.toInt ≤ x_5.toInt := v_le c_6
        have rw6_0 := v_rng en
        have rw6_1 := v_rng x_5
        refine lv_iconst (v := 0) hx hb dX6_isBetter_67 (by decide) ?_
        exact kl_z (v := 0) hQQ hx hb hr hlocks hS dX6_isBetter_68 (rfl) (fun PZ9 kZ9 => kZ9 (⟨hP, hD⟩) (by decide) (by unfold F_ib lxl; rw [← ex_1, ← ex_3, ← ex_5]; first | exact Or.inl ⟨rfl, by omega⟩ | exact Or.inr ⟨rfl, by omega⟩))
      · have tc_6 : x_5.toInt < en.toInt := v_nle c_6
        have rw6_0 := v_rng en
        have rw6_1 := v_rng x_5
        refine lv_iconst (v := 1) hx hb dX6_isBetter_63 (by decide) ?_
        refine lv_goto (tgt := 68) hx hb dX6_isBetter_64 (by decide) ?_
        exact kl_z (v := 1) hQQ hx hb hr hlocks hS dX6_isBetter_68 (rfl) (fun PZ9 kZ9 => kZ9 (⟨hP, hD⟩) (by decide) (by unfold F_ib lxl; rw [← ex_1, ← ex_3, ← ex_5]; first | exact Or.inl ⟨rfl, by omega⟩ | exact Or.inr ⟨rfl, by omega⟩))
    · have tc_4 : ¬ sp.toInt = x_3.toInt := v_ne c_4
      have rw4_0 := v_rng sp
      have rw4_1 := v_rng x_3
      refine lv_iload_n hx hb dX6_isBetter_36 rfl (lv_at hl 3 rfl) ?_
      refine lv_aload_n hx hb dX6_isBetter_37 rfl (lv_at hl 0 rfl) ?_
      refine va_get (D := (dC, dI)) (ci := 6) (v := .ref q2) (C := RX6) (T := TX6) (N := 12) hx hb hts in_X6 hown hK hP 0 rfl rfl 8 (Nat.le_of_ble_eq_true rfl) (hts (.fieldLink RX6 30 "TextMender$Parting" "spansFrom" "[I") (List.mem_of_getElem? (i := 2) rfl)) (fun _ h9 => h9) rfl dX6_isBetter_38 ?_
      refine lv_iload_n hx hb dX6_isBetter_41 rfl (lv_at hl 1 rfl) ?_
      refine va_iald hx hb hK hP 2 0 rfl rfl (v_inR g_fr (by decide) (by decide)) dX6_isBetter_42 ?_
      refine k_i (y := x_3) ex_3.symm ?_
      refine lv_icmp_ge (tgt := 50) hx hb dX6_isBetter_43 (by decide) (fun c_7 => ?_) (fun c_7 => ?_)
      · have tc_7 : x_3.toInt ≤ sp.toInt := v_le c_7
        refine lv_iconst (v := 0) hx hb dX6_isBetter_50 (by decide) ?_
        exact kl_z (v := 0) hQQ hx hb hr hlocks hS dX6_isBetter_51 (rfl) (fun PZ9 kZ9 => kZ9 (⟨hP, hD⟩) (by decide) (by unfold F_ib lxl; rw [← ex_1, ← ex_3]; first | exact Or.inl ⟨rfl, by omega⟩ | exact Or.inr ⟨rfl, by omega⟩))
      · have tc_7 : sp.toInt < x_3.toInt := v_nle c_7
        refine lv_iconst (v := 1) hx hb dX6_isBetter_46 (by decide) ?_
        refine lv_goto (tgt := 51) hx hb dX6_isBetter_47 (by decide) ?_
        exact kl_z (v := 1) hQQ hx hb hr hlocks hS dX6_isBetter_51 (rfl) (fun PZ9 kZ9 => kZ9 (⟨hP, hD⟩) (by decide) (by unfold F_ib lxl; rw [← ex_1, ← ex_3]; first | exact Or.inl ⟨rfl, by omega⟩ | exact Or.inr ⟨rfl, by omega⟩))
  · have tc_2 : ¬ sm.toInt = x_1.toInt := v_ne c_2
    have rw2_0 := v_rng sm
    have rw2_1 := v_rng x_1
    refine lv_iload_n hx hb dX6_isBetter_10 rfl (lv_at hl 2 rfl) ?_
    refine lv_aload_n hx hb dX6_isBetter_11 rfl (lv_at hl 0 rfl) ?_
    refine va_get (D := (dC, dI)) (ci := 6) (v := .ref q1) (C := RX6) (T := TX6) (N := 12) hx hb hts in_X6 hown hK hP 0 rfl rfl 7 (Nat.le_of_ble_eq_true rfl) (hts (.fieldLink RX6 26 "TextMender$Parting" "leastCost" "[I") (List.mem_of_getElem? (i := 1) rfl)) (fun _ h9 => h9) rfl dX6_isBetter_12 ?_
    refine lv_iload_n hx hb dX6_isBetter_15 rfl (lv_at hl 1 rfl) ?_
    refine va_iald hx hb hK hP 1 0 rfl rfl (v_inR g_fr (by decide) (by decide)) dX6_isBetter_16 ?_
    refine k_i (y := x_1) ex_1.symm ?_
    refine lv_icmp_ge (tgt := 24) hx hb dX6_isBetter_17 (by decide) (fun c_8 => ?_) (fun c_8 => ?_)
    · have tc_8 : x_1.toInt ≤ sm.toInt := v_le c_8
      refine lv_iconst (v := 0) hx hb dX6_isBetter_24 (by decide) ?_
      exact kl_z (v := 0) hQQ hx hb hr hlocks hS dX6_isBetter_25 (rfl) (fun PZ9 kZ9 => kZ9 (⟨hP, hD⟩) (by decide) (by unfold F_ib lxl; rw [← ex_1]; first | exact Or.inl ⟨rfl, by omega⟩ | exact Or.inr ⟨rfl, by omega⟩))
    · have tc_8 : sm.toInt < x_1.toInt := v_nle c_8
      refine lv_iconst (v := 1) hx hb dX6_isBetter_20 (by decide) ?_
      refine lv_goto (tgt := 25) hx hb dX6_isBetter_21 (by decide) ?_
      exact kl_z (v := 1) hQQ hx hb hr hlocks hS dX6_isBetter_25 (rfl) (fun PZ9 kZ9 => kZ9 (⟨hP, hD⟩) (by decide) (by unfold F_ib lxl; rw [← ex_1]; first | exact Or.inl ⟨rfl, by omega⟩ | exact Or.inr ⟨rfl, by omega⟩))

theorem ib_1 {r : Int32} {sm sp en c s e : Int} (h : F_ib r sm sp en c s e) (h1 : ¬ r.toInt = 0) : lxl sm sp en c s e := h.elim (fun z => z.2) (fun z => absurd z.1 h1)
theorem ib_0 {r : Int32} {sm sp en c s e : Int} (h : F_ib r sm sp en c s e) (h0 : r.toInt = 0) : ¬ lxl sm sp en c s e := h.elim (fun z => by have := z.1; omega) (fun z => z.2)

set_option maxHeartbeats 40000000 in
set_option maxRecDepth 100000 in
theorem f_X6_offer (l : Launch) (dC : Nat → ClassId) (dI : Nat → Nat → Nat) (cI cS : ClassId) (sz : Nat) (oQ : Nat) (oC : Nat) (oH : Nat) (oK : Nat) (oE : Nat) (nq : Nat) (np : Nat) (nv : Nat) (q1 : Nat) (q2 : Nat) (q3 : Nat) (q4 : Nat) (pr : Int32) (fQ1 : Nat → Int32) (fQ2 : Nat → Int32) (fQ3 : Nat → Int32) (fQ4 : Nat → Int32) (fr : Int32) (en : Int32) (h : Int32) (cs : Int32) (g_pr : 0 ≤ pr.toInt ∧ pr.toInt ≤ 1000) (g_fr : 0 ≤ fr.toInt ∧ fr.toInt ≤ 59) (g_en : 1 ≤ en.toInt ∧ en.toInt ≤ 60) (g_cs : 0 ≤ cs.toInt ∧ cs.toInt ≤ 62000) (hfe : fr.toInt < en.toInt) (he1 : 0 ≤ (fQ1 en.toNatClampNeg).toInt ∧ (fQ1 en.toNatClampNeg).toInt ≤ 5000000) (he2 : 0 ≤ (fQ2 en.toNatClampNeg).toInt ∧ (fQ2 en.toNatClampNeg).toInt ≤ 60) : kMv l yX6_offer wsX6_offer ({ frames := 1, cells := 0, slots := 0, locals := 24 } : Room) [.ref oQ, .int fr, .int en, .int h, .int cs] sz (dC, dI) vwCl [(cI, .int), (cS, .short)] [(oQ, .inr (6, [.ref oC, .ref oH, .ref oK, .ref oE, .ref nq, .ref np, .ref nv, .ref q1, .ref q2, .ref q3, .ref q4, .int pr])), (q1, .inl (cI, 61, .inl fQ1)), (q2, .inl (cI, 61, .inl fQ2)), (q3, .inl (cI, 61, .inl fQ3)), (q4, .inl (cI, 61, .inl fQ4))] (fun _ => True) 0 0 (fun (A : Nat → Prop) (hh9 : Heap) => ∀ PZ9 : Prop, (∀ (fQ1' : Nat → Int32) (fQ2' : Nat → Int32) (fQ3' : Nat → Int32) (fQ4' : Nat → Int32), kPD (dC, dI) vwCl A [(oQ, .inr (6, [.ref oC, .ref oH, .ref oK, .ref oE, .ref nq, .ref np, .ref nv, .ref q1, .ref q2, .ref q3, .ref q4, .int pr])), (q1, .inl (cI, 61, .inl fQ1')), (q2, .inl (cI, 61, .inl fQ2')), (q3, .inl (cI, 61, .inl fQ3')), (q4, .inl (cI, 61, .inl fQ4'))] hh9 → (F_of pr fr en h cs fQ1 fQ1' fQ2 fQ2' fQ3 fQ3' fQ4 fQ4') → PZ9) → PZ9) := by
  refine kMv_of (cc := cX6_offer) (maxL := 7) (ret := none) (lv := [(0, .ref oQ), (1, .int fr), (2, .int en), (3, .int h), (4, .int cs)]) (by decide +kernel) rfl rfl (Nat.le_of_ble_eq_true rfl) ?_
  intro p e s m below meth c A QQ ls hx hb hr hts hml hown hlocks hA hQQ hK hX hP hD hS hl
  have hown : s.vm.findClass RX6 = some m.cls := hown
  have hcf := k_cf hx hb hml hown hts
  have in_X6 : ∀ w ∈ wsX60, w ∈ wsX6_offer := fun _ h => List.mem_cons_of_mem _ (List.mem_append_left _ (List.mem_append_right _ (h)))
  refine lv_iload_n hx hb dX6_offer_0 rfl (lv_at hl 1 rfl) ?_
  refine lv_if_lt (tgt := 15) hx hb dX6_offer_1 (by decide) (fun c_1 => by exfalso; have tc_1 : fr.toInt < 0 := v_lt c_1; omega) (fun c_1 => ?_)
  have tc_1 : 0 ≤ fr.toInt := v_nlt c_1
  refine lv_iload_n hx hb dX6_offer_4 rfl (lv_at hl 2 rfl) ?_
  refine lv_iload_n hx hb dX6_offer_5 rfl (lv_at hl 1 rfl) ?_
  refine lv_icmp_le (tgt := 15) hx hb dX6_offer_6 (by decide) (fun c_2 => by exfalso; have tc_2 : en.toInt ≤ fr.toInt := v_le c_2; omega) (fun c_2 => ?_)
  have tc_2 : fr.toInt < en.toInt := v_nle c_2
  refine lv_iload_n hx hb dX6_offer_9 rfl (lv_at hl 2 rfl) ?_
  refine lv_bipush (v := 60) hx hb dX6_offer_10 (by decide) ?_
  refine lv_icmp_le (tgt := 16) hx hb dX6_offer_12 (by decide) (fun c_3 => ?_) (fun c_3 => by exfalso; have tc_3 : 60 < en.toInt := v_nle c_3; omega)
  have tc_3 : en.toInt ≤ 60 := v_le c_3
  refine lv_iload hx hb dX6_offer_16 (lv_at hl 4 rfl) ?_
  refine lv_aload_n hx hb dX6_offer_18 rfl (lv_at hl 0 rfl) ?_
  refine va_get (D := (dC, dI)) (ci := 6) (v := .ref q1) (C := RX6) (T := TX6) (N := 12) hx hb hts in_X6 hown hK hP 0 rfl rfl 7 (Nat.le_of_ble_eq_true rfl) (hts (.fieldLink RX6 26 "TextMender$Parting" "leastCost" "[I") (List.mem_of_getElem? (i := 1) rfl)) (fun _ h9 => h9) rfl dX6_offer_19 ?_
  refine lv_iload_n hx hb dX6_offer_22 rfl (lv_at hl 2 rfl) ?_
  refine va_iald hx hb hK hP 1 0 rfl rfl (v_inR g_en (by decide) (by decide)) dX6_offer_23 ?_
  refine lv_topi (fun x_4 ex_4 => ?_)
  have ho_x_4 : 0 ≤ x_4.toInt ∧ x_4.toInt ≤ 5000000 := by rw [ex_4]; exact he1
  refine lv_iadd hx hb dX6_offer_24 ?_
  refine lv_topi (fun x_5 ex_5 => ?_)
  have tx_5 : x_5.toInt = cs.toInt + x_4.toInt := v_add ex_5 (by show -2147483648 ≤ cs.toInt + x_4.toInt; omega) (by show cs.toInt + x_4.toInt < 2147483648; omega)
  refine lv_aload_n hx hb dX6_offer_25 rfl (lv_at hl 0 rfl) ?_
  refine va_get (D := (dC, dI)) (ci := 6) (v := .ref q2) (C := RX6) (T := TX6) (N := 12) hx hb hts in_X6 hown hK hP 0 rfl rfl 8 (Nat.le_of_ble_eq_true rfl) (hts (.fieldLink RX6 30 "TextMender$Parting" "spansFrom" "[I") (List.mem_of_getElem? (i := 2) rfl)) (fun _ h9 => h9) rfl dX6_offer_26 ?_
  refine lv_iload_n hx hb dX6_offer_29 rfl (lv_at hl 2 rfl) ?_
  refine va_iald hx hb hK hP 2 0 rfl rfl (v_inR g_en (by decide) (by decide)) dX6_offer_30 ?_
  refine lv_topi (fun x_6 ex_6 => ?_)
  have ho_x_6 : 0 ≤ x_6.toInt ∧ x_6.toInt ≤ 60 := by rw [ex_6]; exact he2
  refine lv_if_le (tgt := 41) hx hb dX6_offer_31 (by decide) (fun c_7 => ?_) (fun c_7 => ?_)
  · have tc_7 : x_6.toInt ≤ 0 := v_le c_7
    refine lv_iconst (v := 0) hx hb dX6_offer_41 (by decide) ?_
    refine lv_iadd hx hb dX6_offer_42 ?_
    refine lv_topi (fun x_8 ex_8 => ?_)
    have tx_8 : x_8.toInt = x_5.toInt + 0 := v_add ex_8 (by show -2147483648 ≤ x_5.toInt + 0; omega) (by show x_5.toInt + 0 < 2147483648; omega)
    refine lv_istore (lv' := [(5, .int x_8), (0, .ref oQ), (1, .int fr), (2, .int en), (3, .int h), (4, .int cs)]) hx hb dX6_offer_43 hl (by decide) rfl (fun ls hl => ?_)
    refine lv_iconst (v := 1) hx hb dX6_offer_45 (by decide) ?_
    refine lv_aload_n hx hb dX6_offer_46 rfl (lv_at hl 1 rfl) ?_
    refine va_get (D := (dC, dI)) (ci := 6) (v := .ref q2) (C := RX6) (T := TX6) (N := 12) hx hb hts in_X6 hown hK hP 0 rfl rfl 8 (Nat.le_of_ble_eq_true rfl) (hts (.fieldLink RX6 30 "TextMender$Parting" "spansFrom" "[I") (List.mem_of_getElem? (i := 2) rfl)) (fun _ h9 => h9) rfl dX6_offer_47 ?_
    refine lv_iload_n hx hb dX6_offer_50 rfl (lv_at hl 3 rfl) ?_
    refine va_iald hx hb hK hP 2 0 rfl rfl (v_inR g_en (by decide) (by decide)) dX6_offer_51 ?_
    refine k_i (y := x_6) ex_6.symm ?_
    refine lv_iadd hx hb dX6_offer_52 ?_
    refine lv_topi (fun x_9 ex_9 => ?_)
    have tx_9 : x_9.toInt = 1 + x_6.toInt := v_add ex_9 (by show -2147483648 ≤ 1 + x_6.toInt; omega) (by show 1 + x_6.toInt < 2147483648; omega)
    refine lv_istore (lv' := [(6, .int x_9), (5, .int x_8), (0, .ref oQ), (1, .int fr), (2, .int en), (3, .int h), (4, .int cs)]) hx hb dX6_offer_53 hl (by decide) rfl (fun ls hl => ?_)
    refine lv_aload_n hx hb dX6_offer_55 rfl (lv_at hl 2 rfl) ?_
    refine va_get (D := (dC, dI)) (ci := 6) (v := .ref q1) (C := RX6) (T := TX6) (N := 12) hx hb hts in_X6 hown hK hP 0 rfl rfl 7 (Nat.le_of_ble_eq_true rfl) (hts (.fieldLink RX6 26 "TextMender$Parting" "leastCost" "[I") (List.mem_of_getElem? (i := 1) rfl)) (fun _ h9 => h9) rfl dX6_offer_56 ?_
    refine lv_iload_n hx hb dX6_offer_59 rfl (lv_at hl 3 rfl) ?_
    refine va_iald hx hb hK hP 1 0 rfl rfl (v_inR g_fr (by decide) (by decide)) dX6_offer_60 ?_
    refine lv_topi (fun x_10 ex_10 => ?_)
    refine lv_iconst (v := (-1)) hx hb dX6_offer_61 (by decide) ?_
    refine lv_icmp_eq (tgt := 78) hx hb dX6_offer_62 (by decide) (fun c_11 => ?_) (fun c_11 => ?_)
    · have tc_11 : x_10.toInt = (-1) := v_eq c_11
      refine lv_aload_n hx hb dX6_offer_78 rfl (lv_at hl 2 rfl) ?_
      refine va_get (D := (dC, dI)) (ci := 6) (v := .ref q1) (C := RX6) (T := TX6) (N := 12) hx hb hts in_X6 hown hK hP 0 rfl rfl 7 (Nat.le_of_ble_eq_true rfl) (hts (.fieldLink RX6 26 "TextMender$Parting" "leastCost" "[I") (List.mem_of_getElem? (i := 1) rfl)) (fun _ h9 => h9) rfl dX6_offer_79 ?_
      refine lv_iload_n hx hb dX6_offer_82 rfl (lv_at hl 3 rfl) ?_
      refine lv_iload hx hb dX6_offer_83 (lv_at hl 1 rfl) ?_
      obtain ⟨f_12, ef_12⟩ : ∃ g : Nat → Int32, g = upd fQ1 (fr : Int32).toNatClampNeg x_8 := ⟨_, rfl⟩
      refine va_iast hx hb hK hP hD hS 1 0 rfl rfl (v_inR g_fr (by decide) (by decide)) dX6_offer_85 (kWf (g := f_12) (F := fun f_12 => [(oQ, .inr (6, [.ref oC, .ref oH, .ref oK, .ref oE, .ref nq, .ref np, .ref nv, .ref q1, .ref q2, .ref q3, .ref q4, .int pr])), (q1, .inl (cI, 61, .inl f_12)), (q2, .inl (cI, 61, .inl fQ2)), (q3, .inl (cI, 61, .inl fQ3)), (q4, .inl (cI, 61, .inl fQ4))]) ef_12 rfl (fun H locs hPn hDn hSn => ?_))
      clear hP hD hS
      have hP := hPn
      have hD := hDn
      have hS := hSn
      clear hPn hDn hSn
      refine lv_aload_n hx hb dX6_offer_86 rfl (lv_at hl 2 rfl) ?_
      refine va_get (D := (dC, dI)) (ci := 6) (v := .ref q2) (C := RX6) (T := TX6) (N := 12) hx hb hts in_X6 hown hK hP 0 rfl rfl 8 (Nat.le_of_ble_eq_true rfl) (hts (.fieldLink RX6 30 "TextMender$Parting" "spansFrom" "[I") (List.mem_of_getElem? (i := 2) rfl)) (fun _ h9 => h9) rfl dX6_offer_87 ?_
      refine lv_iload_n hx hb dX6_offer_90 rfl (lv_at hl 3 rfl) ?_
      refine lv_iload hx hb dX6_offer_91 (lv_at hl 0 rfl) ?_
      obtain ⟨f_13, ef_13⟩ : ∃ g : Nat → Int32, g = upd fQ2 (fr : Int32).toNatClampNeg x_9 := ⟨_, rfl⟩
      refine va_iast hx hb hK hP hD hS 2 0 rfl rfl (v_inR g_fr (by decide) (by decide)) dX6_offer_93 (kWf (g := f_13) (F := fun f_13 => [(oQ, .inr (6, [.ref oC, .ref oH, .ref oK, .ref oE, .ref nq, .ref np, .ref nv, .ref q1, .ref q2, .ref q3, .ref q4, .int pr])), (q1, .inl (cI, 61, .inl f_12)), (q2, .inl (cI, 61, .inl f_13)), (q3, .inl (cI, 61, .inl fQ3)), (q4, .inl (cI, 61, .inl fQ4))]) ef_13 rfl (fun H locs hPn hDn hSn => ?_))
      clear hP hD hS
      have hP := hPn
      have hD := hDn
      have hS := hSn
      clear hPn hDn hSn
      refine lv_aload_n hx hb dX6_offer_94 rfl (lv_at hl 2 rfl) ?_
      refine va_get (D := (dC, dI)) (ci := 6) (v := .ref q3) (C := RX6) (T := TX6) (N := 12) hx hb hts in_X6 hown hK hP 0 rfl rfl 9 (Nat.le_of_ble_eq_true rfl) (hts (.fieldLink RX6 33 "TextMender$Parting" "endOf" "[I") (List.mem_of_getElem? (i := 4) rfl)) (fun _ h9 => h9) rfl dX6_offer_95 ?_
      refine lv_iload_n hx hb dX6_offer_98 rfl (lv_at hl 3 rfl) ?_
      refine lv_iload_n hx hb dX6_offer_99 rfl (lv_at hl 4 rfl) ?_
      obtain ⟨f_14, ef_14⟩ : ∃ g : Nat → Int32, g = upd fQ3 (fr : Int32).toNatClampNeg en := ⟨_, rfl⟩
      refine va_iast hx hb hK hP hD hS 3 0 rfl rfl (v_inR g_fr (by decide) (by decide)) dX6_offer_100 (kWf (g := f_14) (F := fun f_14 => [(oQ, .inr (6, [.ref oC, .ref oH, .ref oK, .ref oE, .ref nq, .ref np, .ref nv, .ref q1, .ref q2, .ref q3, .ref q4, .int pr])), (q1, .inl (cI, 61, .inl f_12)), (q2, .inl (cI, 61, .inl f_13)), (q3, .inl (cI, 61, .inl f_14)), (q4, .inl (cI, 61, .inl fQ4))]) ef_14 rfl (fun H locs hPn hDn hSn => ?_))
      clear hP hD hS
      have hP := hPn
      have hD := hDn
      have hS := hSn
      clear hPn hDn hSn
      refine lv_aload_n hx hb dX6_offer_101 rfl (lv_at hl 2 rfl) ?_
      refine va_get (D := (dC, dI)) (ci := 6) (v := .ref q4) (C := RX6) (T := TX6) (N := 12) hx hb hts in_X6 hown hK hP 0 rfl rfl 10 (Nat.le_of_ble_eq_true rfl) (hts (.fieldLink RX6 36 "TextMender$Parting" "harmOf" "[I") (List.mem_of_getElem? (i := 5) rfl)) (fun _ h9 => h9) rfl dX6_offer_102 ?_
      refine lv_iload_n hx hb dX6_offer_105 rfl (lv_at hl 3 rfl) ?_
      refine lv_iload_n hx hb dX6_offer_106 rfl (lv_at hl 5 rfl) ?_
      obtain ⟨f_15, ef_15⟩ : ∃ g : Nat → Int32, g = upd fQ4 (fr : Int32).toNatClampNeg h := ⟨_, rfl⟩
      refine va_iast hx hb hK hP hD hS 4 0 rfl rfl (v_inR g_fr (by decide) (by decide)) dX6_offer_107 (kWf (g := f_15) (F := fun f_15 => [(oQ, .inr (6, [.ref oC, .ref oH, .ref oK, .ref oE, .ref nq, .ref np, .ref nv, .ref q1, .ref q2, .ref q3, .ref q4, .int pr])), (q1, .inl (cI, 61, .inl f_12)), (q2, .inl (cI, 61, .inl f_13)), (q3, .inl (cI, 61, .inl f_14)), (q4, .inl (cI, 61, .inl f_15))]) ef_15 rfl (fun H locs hPn hDn hSn => ?_))
      clear hP hD hS
      have hP := hPn
      have hD := hDn
      have hS := hSn
      clear hPn hDn hSn
      exact kl_v hQQ hx hb hr hlocks hS dX6_offer_108 (fun PZ9 kZ9 => kZ9 f_12 f_13 f_14 f_15 (⟨hP, hD⟩) (⟨x_8, x_9, by rw [← ex_4, ← ex_6]; first | (rw [if_pos (by omega)]; omega) | (rw [if_neg (by omega)]; omega), by rw [← ex_6]; omega, Or.inl ⟨Or.inl (ex_10.symm.trans c_11), ef_12, ef_13, ef_14, ef_15⟩⟩))
    · have tc_11 : ¬ x_10.toInt = (-1) := v_ne c_11
      refine lv_aload_n hx hb dX6_offer_65 rfl (lv_at hl 2 rfl) ?_
      refine lv_iload_n hx hb dX6_offer_66 rfl (lv_at hl 3 rfl) ?_
      refine lv_iload hx hb dX6_offer_67 (lv_at hl 1 rfl) ?_
      refine lv_iload hx hb dX6_offer_69 (lv_at hl 0 rfl) ?_
      refine lv_iload_n hx hb dX6_offer_71 rfl (lv_at hl 4 rfl) ?_
      refine kV_i (rest := []) (q0 := 0) (ci := 6) hcf (f_X6_isBetter l dC dI cI cS s.heap.size oQ oC oH oK oE nq np nv q1 q2 q3 q4 pr fQ1 fQ2 fQ3 fr x_8 x_9 en (v_rr g_fr (by decide) (by decide))) kc_X6_isBetter gX6_offer_X6_isBetter rfl rfl rfl ⟨Nat.le_of_ble_eq_true rfl, Nat.le_of_ble_eq_true rfl⟩ kX_t hK hP hD hS hA [0, 1, 2, 3] [4] rfl (by decide +kernel) rfl rfl rfl hl rfl (Nat.le_of_ble_eq_true rfl) dX6_offer_72 ⟨Nat.le_of_ble_eq_true rfl, Nat.le_of_ble_eq_true rfl⟩ (fun r_16 H locs hB hJ hSn => ?_)
      refine hB _ (fun hPD9 hf16_0 hf16_1 => ?_)
      clear hB
      obtain ⟨hPn, hDn⟩ := hJ _ hPD9.1 hPD9.2 [(q4, .inl (cI, 61, .inl fQ4)), (oQ, .inr (6, [.ref oC, .ref oH, .ref oK, .ref oE, .ref nq, .ref np, .ref nv, .ref q1, .ref q2, .ref q3, .ref q4, .int pr])), (q1, .inl (cI, 61, .inl fQ1)), (q2, .inl (cI, 61, .inl fQ2)), (q3, .inl (cI, 61, .inl fQ3))] rfl
      clear hP hD hS hJ hPD9
      have hP := hPn
      have hD := hDn
      have hS := hSn
      clear hPn hDn hSn
      refine lv_if_eq (tgt := 108) hx hb dX6_offer_75 (by decide) (fun c_17 => ?_) (fun c_17 => ?_)
      · have tc_17 : r_16.toInt = 0 := v_eq c_17
        exact kl_v hQQ hx hb hr hlocks hS dX6_offer_108 (fun PZ9 kZ9 => kZ9 fQ1 fQ2 fQ3 fQ4 (kPD_sub hP hD [1, 2, 3, 4, 0] (by decide +kernel) rfl) (⟨x_8, x_9, by rw [← ex_4, ← ex_6]; first | (rw [if_pos (by omega)]; omega) | (rw [if_neg (by omega)]; omega), by rw [← ex_6]; omega, Or.inr ⟨fun e9 => c_11 (ex_10.trans e9), ib_0 hf16_1 (by omega), rfl, rfl, rfl, rfl⟩⟩))
      · have tc_17 : ¬ r_16.toInt = 0 := v_ne c_17
        refine lv_aload_n hx hb dX6_offer_78 rfl (lv_at hl 2 rfl) ?_
        refine va_get (D := (dC, dI)) (ci := 6) (v := .ref q1) (C := RX6) (T := TX6) (N := 12) hx hb hts in_X6 hown hK hP 1 rfl rfl 7 (Nat.le_of_ble_eq_true rfl) (hts (.fieldLink RX6 26 "TextMender$Parting" "leastCost" "[I") (List.mem_of_getElem? (i := 1) rfl)) (fun _ h9 => h9) rfl dX6_offer_79 ?_
        refine lv_iload_n hx hb dX6_offer_82 rfl (lv_at hl 3 rfl) ?_
        refine lv_iload hx hb dX6_offer_83 (lv_at hl 1 rfl) ?_
        obtain ⟨f_18, ef_18⟩ : ∃ g : Nat → Int32, g = upd fQ1 (fr : Int32).toNatClampNeg x_8 := ⟨_, rfl⟩
        refine va_iast hx hb hK hP hD hS 2 0 rfl rfl (v_inR g_fr (by decide) (by decide)) dX6_offer_85 (kWf (g := f_18) (F := fun f_18 => [(q4, .inl (cI, 61, .inl fQ4)), (oQ, .inr (6, [.ref oC, .ref oH, .ref oK, .ref oE, .ref nq, .ref np, .ref nv, .ref q1, .ref q2, .ref q3, .ref q4, .int pr])), (q1, .inl (cI, 61, .inl f_18)), (q2, .inl (cI, 61, .inl fQ2)), (q3, .inl (cI, 61, .inl fQ3))]) ef_18 rfl (fun H locs hPn hDn hSn => ?_))
        clear hP hD hS
        have hP := hPn
        have hD := hDn
        have hS := hSn
        clear hPn hDn hSn
        refine lv_aload_n hx hb dX6_offer_86 rfl (lv_at hl 2 rfl) ?_
        refine va_get (D := (dC, dI)) (ci := 6) (v := .ref q2) (C := RX6) (T := TX6) (N := 12) hx hb hts in_X6 hown hK hP 1 rfl rfl 8 (Nat.le_of_ble_eq_true rfl) (hts (.fieldLink RX6 30 "TextMender$Parting" "spansFrom" "[I") (List.mem_of_getElem? (i := 2) rfl)) (fun _ h9 => h9) rfl dX6_offer_87 ?_
        refine lv_iload_n hx hb dX6_offer_90 rfl (lv_at hl 3 rfl) ?_
        refine lv_iload hx hb dX6_offer_91 (lv_at hl 0 rfl) ?_
        obtain ⟨f_19, ef_19⟩ : ∃ g : Nat → Int32, g = upd fQ2 (fr : Int32).toNatClampNeg x_9 := ⟨_, rfl⟩
        refine va_iast hx hb hK hP hD hS 3 0 rfl rfl (v_inR g_fr (by decide) (by decide)) dX6_offer_93 (kWf (g := f_19) (F := fun f_19 => [(q4, .inl (cI, 61, .inl fQ4)), (oQ, .inr (6, [.ref oC, .ref oH, .ref oK, .ref oE, .ref nq, .ref np, .ref nv, .ref q1, .ref q2, .ref q3, .ref q4, .int pr])), (q1, .inl (cI, 61, .inl f_18)), (q2, .inl (cI, 61, .inl f_19)), (q3, .inl (cI, 61, .inl fQ3))]) ef_19 rfl (fun H locs hPn hDn hSn => ?_))
        clear hP hD hS
        have hP := hPn
        have hD := hDn
        have hS := hSn
        clear hPn hDn hSn
        refine lv_aload_n hx hb dX6_offer_94 rfl (lv_at hl 2 rfl) ?_
        refine va_get (D := (dC, dI)) (ci := 6) (v := .ref q3) (C := RX6) (T := TX6) (N := 12) hx hb hts in_X6 hown hK hP 1 rfl rfl 9 (Nat.le_of_ble_eq_true rfl) (hts (.fieldLink RX6 33 "TextMender$Parting" "endOf" "[I") (List.mem_of_getElem? (i := 4) rfl)) (fun _ h9 => h9) rfl dX6_offer_95 ?_
        refine lv_iload_n hx hb dX6_offer_98 rfl (lv_at hl 3 rfl) ?_
        refine lv_iload_n hx hb dX6_offer_99 rfl (lv_at hl 4 rfl) ?_
        obtain ⟨f_20, ef_20⟩ : ∃ g : Nat → Int32, g = upd fQ3 (fr : Int32).toNatClampNeg en := ⟨_, rfl⟩
        refine va_iast hx hb hK hP hD hS 4 0 rfl rfl (v_inR g_fr (by decide) (by decide)) dX6_offer_100 (kWf (g := f_20) (F := fun f_20 => [(q4, .inl (cI, 61, .inl fQ4)), (oQ, .inr (6, [.ref oC, .ref oH, .ref oK, .ref oE, .ref nq, .ref np, .ref nv, .ref q1, .ref q2, .ref q3, .ref q4, .int pr])), (q1, .inl (cI, 61, .inl f_18)), (q2, .inl (cI, 61, .inl f_19)), (q3, .inl (cI, 61, .inl f_20))]) ef_20 rfl (fun H locs hPn hDn hSn => ?_))
        clear hP hD hS
        have hP := hPn
        have hD := hDn
        have hS := hSn
        clear hPn hDn hSn
        refine lv_aload_n hx hb dX6_offer_101 rfl (lv_at hl 2 rfl) ?_
        refine va_get (D := (dC, dI)) (ci := 6) (v := .ref q4) (C := RX6) (T := TX6) (N := 12) hx hb hts in_X6 hown hK hP 1 rfl rfl 10 (Nat.le_of_ble_eq_true rfl) (hts (.fieldLink RX6 36 "TextMender$Parting" "harmOf" "[I") (List.mem_of_getElem? (i := 5) rfl)) (fun _ h9 => h9) rfl dX6_offer_102 ?_
        refine lv_iload_n hx hb dX6_offer_105 rfl (lv_at hl 3 rfl) ?_
        refine lv_iload_n hx hb dX6_offer_106 rfl (lv_at hl 5 rfl) ?_
        obtain ⟨f_21, ef_21⟩ : ∃ g : Nat → Int32, g = upd fQ4 (fr : Int32).toNatClampNeg h := ⟨_, rfl⟩
        refine va_iast hx hb hK hP hD hS 0 0 rfl rfl (v_inR g_fr (by decide) (by decide)) dX6_offer_107 (kWf (g := f_21) (F := fun f_21 => [(q4, .inl (cI, 61, .inl f_21)), (oQ, .inr (6, [.ref oC, .ref oH, .ref oK, .ref oE, .ref nq, .ref np, .ref nv, .ref q1, .ref q2, .ref q3, .ref q4, .int pr])), (q1, .inl (cI, 61, .inl f_18)), (q2, .inl (cI, 61, .inl f_19)), (q3, .inl (cI, 61, .inl f_20))]) ef_21 rfl (fun H locs hPn hDn hSn => ?_))
        clear hP hD hS
        have hP := hPn
        have hD := hDn
        have hS := hSn
        clear hPn hDn hSn
        exact kl_v hQQ hx hb hr hlocks hS dX6_offer_108 (fun PZ9 kZ9 => kZ9 f_18 f_19 f_20 f_21 (kPD_sub hP hD [1, 2, 3, 4, 0] (by decide +kernel) rfl) (⟨x_8, x_9, by rw [← ex_4, ← ex_6]; first | (rw [if_pos (by omega)]; omega) | (rw [if_neg (by omega)]; omega), by rw [← ex_6]; omega, Or.inl ⟨Or.inr (ib_1 hf16_1 (by omega)), ef_18, ef_19, ef_20, ef_21⟩⟩))
  · have tc_7 : 0 < x_6.toInt := v_nle c_7
    refine lv_aload_n hx hb dX6_offer_34 rfl (lv_at hl 0 rfl) ?_
    refine va_get (D := (dC, dI)) (ci := 6) (v := .int pr) (C := RX6) (T := TX6) (N := 12) hx hb hts in_X6 hown hK hP 0 rfl rfl 11 (Nat.le_of_ble_eq_true rfl) (hts (.fieldLink RX6 60 "TextMender$Parting" "price" "I") (List.mem_of_getElem? (i := 3) rfl)) (fun _ h9 => h9) rfl dX6_offer_35 ?_
    refine lv_goto (tgt := 42) hx hb dX6_offer_38 (by decide) ?_
    refine lv_iadd hx hb dX6_offer_42 ?_
    refine lv_topi (fun x_22 ex_22 => ?_)
    have tx_22 : x_22.toInt = x_5.toInt + pr.toInt := v_add ex_22 (by show -2147483648 ≤ x_5.toInt + pr.toInt; omega) (by show x_5.toInt + pr.toInt < 2147483648; omega)
    refine lv_istore (lv' := [(5, .int x_22), (0, .ref oQ), (1, .int fr), (2, .int en), (3, .int h), (4, .int cs)]) hx hb dX6_offer_43 hl (by decide) rfl (fun ls hl => ?_)
    refine lv_iconst (v := 1) hx hb dX6_offer_45 (by decide) ?_
    refine lv_aload_n hx hb dX6_offer_46 rfl (lv_at hl 1 rfl) ?_
    refine va_get (D := (dC, dI)) (ci := 6) (v := .ref q2) (C := RX6) (T := TX6) (N := 12) hx hb hts in_X6 hown hK hP 0 rfl rfl 8 (Nat.le_of_ble_eq_true rfl) (hts (.fieldLink RX6 30 "TextMender$Parting" "spansFrom" "[I") (List.mem_of_getElem? (i := 2) rfl)) (fun _ h9 => h9) rfl dX6_offer_47 ?_
    refine lv_iload_n hx hb dX6_offer_50 rfl (lv_at hl 3 rfl) ?_
    refine va_iald hx hb hK hP 2 0 rfl rfl (v_inR g_en (by decide) (by decide)) dX6_offer_51 ?_
    refine k_i (y := x_6) ex_6.symm ?_
    refine lv_iadd hx hb dX6_offer_52 ?_
    refine lv_topi (fun x_23 ex_23 => ?_)
    have tx_23 : x_23.toInt = 1 + x_6.toInt := v_add ex_23 (by show -2147483648 ≤ 1 + x_6.toInt; omega) (by show 1 + x_6.toInt < 2147483648; omega)
    refine lv_istore (lv' := [(6, .int x_23), (5, .int x_22), (0, .ref oQ), (1, .int fr), (2, .int en), (3, .int h), (4, .int cs)]) hx hb dX6_offer_53 hl (by decide) rfl (fun ls hl => ?_)
    refine lv_aload_n hx hb dX6_offer_55 rfl (lv_at hl 2 rfl) ?_
    refine va_get (D := (dC, dI)) (ci := 6) (v := .ref q1) (C := RX6) (T := TX6) (N := 12) hx hb hts in_X6 hown hK hP 0 rfl rfl 7 (Nat.le_of_ble_eq_true rfl) (hts (.fieldLink RX6 26 "TextMender$Parting" "leastCost" "[I") (List.mem_of_getElem? (i := 1) rfl)) (fun _ h9 => h9) rfl dX6_offer_56 ?_
    refine lv_iload_n hx hb dX6_offer_59 rfl (lv_at hl 3 rfl) ?_
    refine va_iald hx hb hK hP 1 0 rfl rfl (v_inR g_fr (by decide) (by decide)) dX6_offer_60 ?_
    refine lv_topi (fun x_24 ex_24 => ?_)
    refine lv_iconst (v := (-1)) hx hb dX6_offer_61 (by decide) ?_
    refine lv_icmp_eq (tgt := 78) hx hb dX6_offer_62 (by decide) (fun c_25 => ?_) (fun c_25 => ?_)
    · have tc_25 : x_24.toInt = (-1) := v_eq c_25
      refine lv_aload_n hx hb dX6_offer_78 rfl (lv_at hl 2 rfl) ?_
      refine va_get (D := (dC, dI)) (ci := 6) (v := .ref q1) (C := RX6) (T := TX6) (N := 12) hx hb hts in_X6 hown hK hP 0 rfl rfl 7 (Nat.le_of_ble_eq_true rfl) (hts (.fieldLink RX6 26 "TextMender$Parting" "leastCost" "[I") (List.mem_of_getElem? (i := 1) rfl)) (fun _ h9 => h9) rfl dX6_offer_79 ?_
      refine lv_iload_n hx hb dX6_offer_82 rfl (lv_at hl 3 rfl) ?_
      refine lv_iload hx hb dX6_offer_83 (lv_at hl 1 rfl) ?_
      obtain ⟨f_26, ef_26⟩ : ∃ g : Nat → Int32, g = upd fQ1 (fr : Int32).toNatClampNeg x_22 := ⟨_, rfl⟩
      refine va_iast hx hb hK hP hD hS 1 0 rfl rfl (v_inR g_fr (by decide) (by decide)) dX6_offer_85 (kWf (g := f_26) (F := fun f_26 => [(oQ, .inr (6, [.ref oC, .ref oH, .ref oK, .ref oE, .ref nq, .ref np, .ref nv, .ref q1, .ref q2, .ref q3, .ref q4, .int pr])), (q1, .inl (cI, 61, .inl f_26)), (q2, .inl (cI, 61, .inl fQ2)), (q3, .inl (cI, 61, .inl fQ3)), (q4, .inl (cI, 61, .inl fQ4))]) ef_26 rfl (fun H locs hPn hDn hSn => ?_))
      clear hP hD hS
      have hP := hPn
      have hD := hDn
      have hS := hSn
      clear hPn hDn hSn
      refine lv_aload_n hx hb dX6_offer_86 rfl (lv_at hl 2 rfl) ?_
      refine va_get (D := (dC, dI)) (ci := 6) (v := .ref q2) (C := RX6) (T := TX6) (N := 12) hx hb hts in_X6 hown hK hP 0 rfl rfl 8 (Nat.le_of_ble_eq_true rfl) (hts (.fieldLink RX6 30 "TextMender$Parting" "spansFrom" "[I") (List.mem_of_getElem? (i := 2) rfl)) (fun _ h9 => h9) rfl dX6_offer_87 ?_
      refine lv_iload_n hx hb dX6_offer_90 rfl (lv_at hl 3 rfl) ?_
      refine lv_iload hx hb dX6_offer_91 (lv_at hl 0 rfl) ?_
      obtain ⟨f_27, ef_27⟩ : ∃ g : Nat → Int32, g = upd fQ2 (fr : Int32).toNatClampNeg x_23 := ⟨_, rfl⟩
      refine va_iast hx hb hK hP hD hS 2 0 rfl rfl (v_inR g_fr (by decide) (by decide)) dX6_offer_93 (kWf (g := f_27) (F := fun f_27 => [(oQ, .inr (6, [.ref oC, .ref oH, .ref oK, .ref oE, .ref nq, .ref np, .ref nv, .ref q1, .ref q2, .ref q3, .ref q4, .int pr])), (q1, .inl (cI, 61, .inl f_26)), (q2, .inl (cI, 61, .inl f_27)), (q3, .inl (cI, 61, .inl fQ3)), (q4, .inl (cI, 61, .inl fQ4))]) ef_27 rfl (fun H locs hPn hDn hSn => ?_))
      clear hP hD hS
      have hP := hPn
      have hD := hDn
      have hS := hSn
      clear hPn hDn hSn
      refine lv_aload_n hx hb dX6_offer_94 rfl (lv_at hl 2 rfl) ?_
      refine va_get (D := (dC, dI)) (ci := 6) (v := .ref q3) (C := RX6) (T := TX6) (N := 12) hx hb hts in_X6 hown hK hP 0 rfl rfl 9 (Nat.le_of_ble_eq_true rfl) (hts (.fieldLink RX6 33 "TextMender$Parting" "endOf" "[I") (List.mem_of_getElem? (i := 4) rfl)) (fun _ h9 => h9) rfl dX6_offer_95 ?_
      refine lv_iload_n hx hb dX6_offer_98 rfl (lv_at hl 3 rfl) ?_
      refine lv_iload_n hx hb dX6_offer_99 rfl (lv_at hl 4 rfl) ?_
      obtain ⟨f_28, ef_28⟩ : ∃ g : Nat → Int32, g = upd fQ3 (fr : Int32).toNatClampNeg en := ⟨_, rfl⟩
      refine va_iast hx hb hK hP hD hS 3 0 rfl rfl (v_inR g_fr (by decide) (by decide)) dX6_offer_100 (kWf (g := f_28) (F := fun f_28 => [(oQ, .inr (6, [.ref oC, .ref oH, .ref oK, .ref oE, .ref nq, .ref np, .ref nv, .ref q1, .ref q2, .ref q3, .ref q4, .int pr])), (q1, .inl (cI, 61, .inl f_26)), (q2, .inl (cI, 61, .inl f_27)), (q3, .inl (cI, 61, .inl f_28)), (q4, .inl (cI, 61, .inl fQ4))]) ef_28 rfl (fun H locs hPn hDn hSn => ?_))
      clear hP hD hS
      have hP := hPn
      have hD := hDn
      have hS := hSn
      clear hPn hDn hSn
      refine lv_aload_n hx hb dX6_offer_101 rfl (lv_at hl 2 rfl) ?_
      refine va_get (D := (dC, dI)) (ci := 6) (v := .ref q4) (C := RX6) (T := TX6) (N := 12) hx hb hts in_X6 hown hK hP 0 rfl rfl 10 (Nat.le_of_ble_eq_true rfl) (hts (.fieldLink RX6 36 "TextMender$Parting" "harmOf" "[I") (List.mem_of_getElem? (i := 5) rfl)) (fun _ h9 => h9) rfl dX6_offer_102 ?_
      refine lv_iload_n hx hb dX6_offer_105 rfl (lv_at hl 3 rfl) ?_
      refine lv_iload_n hx hb dX6_offer_106 rfl (lv_at hl 5 rfl) ?_
      obtain ⟨f_29, ef_29⟩ : ∃ g : Nat → Int32, g = upd fQ4 (fr : Int32).toNatClampNeg h := ⟨_, rfl⟩
      refine va_iast hx hb hK hP hD hS 4 0 rfl rfl (v_inR g_fr (by decide) (by decide)) dX6_offer_107 (kWf (g := f_29) (F := fun f_29 => [(oQ, .inr (6, [.ref oC, .ref oH, .ref oK, .ref oE, .ref nq, .ref np, .ref nv, .ref q1, .ref q2, .ref q3, .ref q4, .int pr])), (q1, .inl (cI, 61, .inl f_26)), (q2, .inl (cI, 61, .inl f_27)), (q3, .inl (cI, 61, .inl f_28)), (q4, .inl (cI, 61, .inl f_29))]) ef_29 rfl (fun H locs hPn hDn hSn => ?_))
      clear hP hD hS
      have hP := hPn
      have hD := hDn
      have hS := hSn
      clear hPn hDn hSn
      exact kl_v hQQ hx hb hr hlocks hS dX6_offer_108 (fun PZ9 kZ9 => kZ9 f_26 f_27 f_28 f_29 (⟨hP, hD⟩) (⟨x_22, x_23, by rw [← ex_4, ← ex_6]; first | (rw [if_pos (by omega)]; omega) | (rw [if_neg (by omega)]; omega), by rw [← ex_6]; omega, Or.inl ⟨Or.inl (ex_24.symm.trans c_25), ef_26, ef_27, ef_28, ef_29⟩⟩))
    · have tc_25 : ¬ x_24.toInt = (-1) := v_ne c_25
      refine lv_aload_n hx hb dX6_offer_65 rfl (lv_at hl 2 rfl) ?_
      refine lv_iload_n hx hb dX6_offer_66 rfl (lv_at hl 3 rfl) ?_
      refine lv_iload hx hb dX6_offer_67 (lv_at hl 1 rfl) ?_
      refine lv_iload hx hb dX6_offer_69 (lv_at hl 0 rfl) ?_
      refine lv_iload_n hx hb dX6_offer_71 rfl (lv_at hl 4 rfl) ?_
      refine kV_i (rest := []) (q0 := 0) (ci := 6) hcf (f_X6_isBetter l dC dI cI cS s.heap.size oQ oC oH oK oE nq np nv q1 q2 q3 q4 pr fQ1 fQ2 fQ3 fr x_22 x_23 en (v_rr g_fr (by decide) (by decide))) kc_X6_isBetter gX6_offer_X6_isBetter rfl rfl rfl ⟨Nat.le_of_ble_eq_true rfl, Nat.le_of_ble_eq_true rfl⟩ kX_t hK hP hD hS hA [0, 1, 2, 3] [4] rfl (by decide +kernel) rfl rfl rfl hl rfl (Nat.le_of_ble_eq_true rfl) dX6_offer_72 ⟨Nat.le_of_ble_eq_true rfl, Nat.le_of_ble_eq_true rfl⟩ (fun r_30 H locs hB hJ hSn => ?_)
      refine hB _ (fun hPD9 hf30_0 hf30_1 => ?_)
      clear hB
      obtain ⟨hPn, hDn⟩ := hJ _ hPD9.1 hPD9.2 [(q4, .inl (cI, 61, .inl fQ4)), (oQ, .inr (6, [.ref oC, .ref oH, .ref oK, .ref oE, .ref nq, .ref np, .ref nv, .ref q1, .ref q2, .ref q3, .ref q4, .int pr])), (q1, .inl (cI, 61, .inl fQ1)), (q2, .inl (cI, 61, .inl fQ2)), (q3, .inl (cI, 61, .inl fQ3))] rfl
      clear hP hD hS hJ hPD9
      have hP := hPn
      have hD := hDn
      have hS := hSn
      clear hPn hDn hSn
      refine lv_if_eq (tgt := 108) hx hb dX6_offer_75 (by decide) (fun c_31 => ?_) (fun c_31 => ?_)
      · have tc_31 : r_30.toInt = 0 := v_eq c_31
        exact kl_v hQQ hx hb hr hlocks hS dX6_offer_108 (fun PZ9 kZ9 => kZ9 fQ1 fQ2 fQ3 fQ4 (kPD_sub hP hD [1, 2, 3, 4, 0] (by decide +kernel) rfl) (⟨x_22, x_23, by rw [← ex_4, ← ex_6]; first | (rw [if_pos (by omega)]; omega) | (rw [if_neg (by omega)]; omega), by rw [← ex_6]; omega, Or.inr ⟨fun e9 => c_25 (ex_24.trans e9), ib_0 hf30_1 (by omega), rfl, rfl, rfl, rfl⟩⟩))
      · have tc_31 : ¬ r_30.toInt = 0 := v_ne c_31
        refine lv_aload_n hx hb dX6_offer_78 rfl (lv_at hl 2 rfl) ?_
        refine va_get (D := (dC, dI)) (ci := 6) (v := .ref q1) (C := RX6) (T := TX6) (N := 12) hx hb hts in_X6 hown hK hP 1 rfl rfl 7 (Nat.le_of_ble_eq_true rfl) (hts (.fieldLink RX6 26 "TextMender$Parting" "leastCost" "[I") (List.mem_of_getElem? (i := 1) rfl)) (fun _ h9 => h9) rfl dX6_offer_79 ?_
        refine lv_iload_n hx hb dX6_offer_82 rfl (lv_at hl 3 rfl) ?_
        refine lv_iload hx hb dX6_offer_83 (lv_at hl 1 rfl) ?_
        obtain ⟨f_32, ef_32⟩ : ∃ g : Nat → Int32, g = upd fQ1 (fr : Int32).toNatClampNeg x_22 := ⟨_, rfl⟩
        refine va_iast hx hb hK hP hD hS 2 0 rfl rfl (v_inR g_fr (by decide) (by decide)) dX6_offer_85 (kWf (g := f_32) (F := fun f_32 => [(q4, .inl (cI, 61, .inl fQ4)), (oQ, .inr (6, [.ref oC, .ref oH, .ref oK, .ref oE, .ref nq, .ref np, .ref nv, .ref q1, .ref q2, .ref q3, .ref q4, .int pr])), (q1, .inl (cI, 61, .inl f_32)), (q2, .inl (cI, 61, .inl fQ2)), (q3, .inl (cI, 61, .inl fQ3))]) ef_32 rfl (fun H locs hPn hDn hSn => ?_))
        clear hP hD hS
        have hP := hPn
        have hD := hDn
        have hS := hSn
        clear hPn hDn hSn
        refine lv_aload_n hx hb dX6_offer_86 rfl (lv_at hl 2 rfl) ?_
        refine va_get (D := (dC, dI)) (ci := 6) (v := .ref q2) (C := RX6) (T := TX6) (N := 12) hx hb hts in_X6 hown hK hP 1 rfl rfl 8 (Nat.le_of_ble_eq_true rfl) (hts (.fieldLink RX6 30 "TextMender$Parting" "spansFrom" "[I") (List.mem_of_getElem? (i := 2) rfl)) (fun _ h9 => h9) rfl dX6_offer_87 ?_
        refine lv_iload_n hx hb dX6_offer_90 rfl (lv_at hl 3 rfl) ?_
        refine lv_iload hx hb dX6_offer_91 (lv_at hl 0 rfl) ?_
        obtain ⟨f_33, ef_33⟩ : ∃ g : Nat → Int32, g = upd fQ2 (fr : Int32).toNatClampNeg x_23 := ⟨_, rfl⟩
        refine va_iast hx hb hK hP hD hS 3 0 rfl rfl (v_inR g_fr (by decide) (by decide)) dX6_offer_93 (kWf (g := f_33) (F := fun f_33 => [(q4, .inl (cI, 61, .inl fQ4)), (oQ, .inr (6, [.ref oC, .ref oH, .ref oK, .ref oE, .ref nq, .ref np, .ref nv, .ref q1, .ref q2, .ref q3, .ref q4, .int pr])), (q1, .inl (cI, 61, .inl f_32)), (q2, .inl (cI, 61, .inl f_33)), (q3, .inl (cI, 61, .inl fQ3))]) ef_33 rfl (fun H locs hPn hDn hSn => ?_))
        clear hP hD hS
        have hP := hPn
        have hD := hDn
        have hS := hSn
        clear hPn hDn hSn
        refine lv_aload_n hx hb dX6_offer_94 rfl (lv_at hl 2 rfl) ?_
        refine va_get (D := (dC, dI)) (ci := 6) (v := .ref q3) (C := RX6) (T := TX6) (N := 12) hx hb hts in_X6 hown hK hP 1 rfl rfl 9 (Nat.le_of_ble_eq_true rfl) (hts (.fieldLink RX6 33 "TextMender$Parting" "endOf" "[I") (List.mem_of_getElem? (i := 4) rfl)) (fun _ h9 => h9) rfl dX6_offer_95 ?_
        refine lv_iload_n hx hb dX6_offer_98 rfl (lv_at hl 3 rfl) ?_
        refine lv_iload_n hx hb dX6_offer_99 rfl (lv_at hl 4 rfl) ?_
        obtain ⟨f_34, ef_34⟩ : ∃ g : Nat → Int32, g = upd fQ3 (fr : Int32).toNatClampNeg en := ⟨_, rfl⟩
        refine va_iast hx hb hK hP hD hS 4 0 rfl rfl (v_inR g_fr (by decide) (by decide)) dX6_offer_100 (kWf (g := f_34) (F := fun f_34 => [(q4, .inl (cI, 61, .inl fQ4)), (oQ, .inr (6, [.ref oC, .ref oH, .ref oK, .ref oE, .ref nq, .ref np, .ref nv, .ref q1, .ref q2, .ref q3, .ref q4, .int pr])), (q1, .inl (cI, 61, .inl f_32)), (q2, .inl (cI, 61, .inl f_33)), (q3, .inl (cI, 61, .inl f_34))]) ef_34 rfl (fun H locs hPn hDn hSn => ?_))
        clear hP hD hS
        have hP := hPn
        have hD := hDn
        have hS := hSn
        clear hPn hDn hSn
        refine lv_aload_n hx hb dX6_offer_101 rfl (lv_at hl 2 rfl) ?_
        refine va_get (D := (dC, dI)) (ci := 6) (v := .ref q4) (C := RX6) (T := TX6) (N := 12) hx hb hts in_X6 hown hK hP 1 rfl rfl 10 (Nat.le_of_ble_eq_true rfl) (hts (.fieldLink RX6 36 "TextMender$Parting" "harmOf" "[I") (List.mem_of_getElem? (i := 5) rfl)) (fun _ h9 => h9) rfl dX6_offer_102 ?_
        refine lv_iload_n hx hb dX6_offer_105 rfl (lv_at hl 3 rfl) ?_
        refine lv_iload_n hx hb dX6_offer_106 rfl (lv_at hl 5 rfl) ?_
        obtain ⟨f_35, ef_35⟩ : ∃ g : Nat → Int32, g = upd fQ4 (fr : Int32).toNatClampNeg h := ⟨_, rfl⟩
        refine va_iast hx hb hK hP hD hS 0 0 rfl rfl (v_inR g_fr (by decide) (by decide)) dX6_offer_107 (kWf (g := f_35) (F := fun f_35 => [(q4, .inl (cI, 61, .inl f_35)), (oQ, .inr (6, [.ref oC, .ref oH, .ref oK, .ref oE, .ref nq, .ref np, .ref nv, .ref q1, .ref q2, .ref q3, .ref q4, .int pr])), (q1, .inl (cI, 61, .inl f_32)), (q2, .inl (cI, 61, .inl f_33)), (q3, .inl (cI, 61, .inl f_34))]) ef_35 rfl (fun H locs hPn hDn hSn => ?_))
        clear hP hD hS
        have hP := hPn
        have hD := hDn
        have hS := hSn
        clear hPn hDn hSn
        exact kl_v hQQ hx hb hr hlocks hS dX6_offer_108 (fun PZ9 kZ9 => kZ9 f_32 f_33 f_34 f_35 (kPD_sub hP hD [1, 2, 3, 4, 0] (by decide +kernel) rfl) (⟨x_22, x_23, by rw [← ex_4, ← ex_6]; first | (rw [if_pos (by omega)]; omega) | (rw [if_neg (by omega)]; omega), by rw [← ex_6]; omega, Or.inl ⟨Or.inr (ib_1 hf30_1 (by omega)), ef_32, ef_33, ef_34, ef_35⟩⟩))

end

/-! 59y.a.rows -/
section
set_option maxRecDepth 100000 in
theorem dA290_cX6_tryAsItIs : kDec cX6_tryAsItIs [(0, .iconst 0, 1), (1, .istore 4, 2), (3, .bipush 32, 2), (5, .istore 5, 2), (7, .iload_n 1, 1), (8, .istore 6, 2), (10, .iload 6, 2), (12, .iload_n 3, 1), (13, .if_icmp .ge 61, 3), (74, .return_, 1), (16, .aload_n 2, 1), (17, .iload 6, 2), (19, .invokevirtual 85, 3), (22, .istore 7, 2), (24, .iload 4, 2), (26, .aload_n 0, 1), (27, .getfield 47, 3), (30, .iload 5, 2), (32, .iload 7, 2), (34, .invokevirtual 89, 3), (37, .iadd, 1), (38, .istore 4, 2), (40, .iload 7, 2), (42, .istore 5, 2)] = true := by decide +kernel
theorem dX6_tryAsItIs_0 : decode cX6_tryAsItIs 0 = .ok (.iconst 0, 1) := kDec_at dA290_cX6_tryAsItIs 0 rfl
theorem dX6_tryAsItIs_1 : decode cX6_tryAsItIs 1 = .ok (.istore 4, 2) := kDec_at dA290_cX6_tryAsItIs 1 rfl
theorem dX6_tryAsItIs_3 : decode cX6_tryAsItIs 3 = .ok (.bipush 32, 2) := kDec_at dA290_cX6_tryAsItIs 2 rfl
theorem dX6_tryAsItIs_5 : decode cX6_tryAsItIs 5 = .ok (.istore 5, 2) := kDec_at dA290_cX6_tryAsItIs 3 rfl
theorem dX6_tryAsItIs_7 : decode cX6_tryAsItIs 7 = .ok (.iload_n 1, 1) := kDec_at dA290_cX6_tryAsItIs 4 rfl
theorem dX6_tryAsItIs_8 : decode cX6_tryAsItIs 8 = .ok (.istore 6, 2) := kDec_at dA290_cX6_tryAsItIs 5 rfl
theorem dX6_tryAsItIs_10 : decode cX6_tryAsItIs 10 = .ok (.iload 6, 2) := kDec_at dA290_cX6_tryAsItIs 6 rfl
theorem dX6_tryAsItIs_12 : decode cX6_tryAsItIs 12 = .ok (.iload_n 3, 1) := kDec_at dA290_cX6_tryAsItIs 7 rfl
theorem dX6_tryAsItIs_13 : decode cX6_tryAsItIs 13 = .ok (.if_icmp .ge 61, 3) := kDec_at dA290_cX6_tryAsItIs 8 rfl
theorem dX6_tryAsItIs_74 : decode cX6_tryAsItIs 74 = .ok (.return_, 1) := kDec_at dA290_cX6_tryAsItIs 9 rfl
theorem dX6_tryAsItIs_16 : decode cX6_tryAsItIs 16 = .ok (.aload_n 2, 1) := kDec_at dA290_cX6_tryAsItIs 10 rfl
theorem dX6_tryAsItIs_17 : decode cX6_tryAsItIs 17 = .ok (.iload 6, 2) := kDec_at dA290_cX6_tryAsItIs 11 rfl
theorem dX6_tryAsItIs_19 : decode cX6_tryAsItIs 19 = .ok (.invokevirtual 85, 3) := kDec_at dA290_cX6_tryAsItIs 12 rfl
theorem dX6_tryAsItIs_22 : decode cX6_tryAsItIs 22 = .ok (.istore 7, 2) := kDec_at dA290_cX6_tryAsItIs 13 rfl
theorem dX6_tryAsItIs_24 : decode cX6_tryAsItIs 24 = .ok (.iload 4, 2) := kDec_at dA290_cX6_tryAsItIs 14 rfl
theorem dX6_tryAsItIs_26 : decode cX6_tryAsItIs 26 = .ok (.aload_n 0, 1) := kDec_at dA290_cX6_tryAsItIs 15 rfl
theorem dX6_tryAsItIs_27 : decode cX6_tryAsItIs 27 = .ok (.getfield 47, 3) := kDec_at dA290_cX6_tryAsItIs 16 rfl
theorem dX6_tryAsItIs_30 : decode cX6_tryAsItIs 30 = .ok (.iload 5, 2) := kDec_at dA290_cX6_tryAsItIs 17 rfl
theorem dX6_tryAsItIs_32 : decode cX6_tryAsItIs 32 = .ok (.iload 7, 2) := kDec_at dA290_cX6_tryAsItIs 18 rfl
theorem dX6_tryAsItIs_34 : decode cX6_tryAsItIs 34 = .ok (.invokevirtual 89, 3) := kDec_at dA290_cX6_tryAsItIs 19 rfl
theorem dX6_tryAsItIs_37 : decode cX6_tryAsItIs 37 = .ok (.iadd, 1) := kDec_at dA290_cX6_tryAsItIs 20 rfl
theorem dX6_tryAsItIs_38 : decode cX6_tryAsItIs 38 = .ok (.istore 4, 2) := kDec_at dA290_cX6_tryAsItIs 21 rfl
theorem dX6_tryAsItIs_40 : decode cX6_tryAsItIs 40 = .ok (.iload 7, 2) := kDec_at dA290_cX6_tryAsItIs 22 rfl
theorem dX6_tryAsItIs_42 : decode cX6_tryAsItIs 42 = .ok (.istore 5, 2) := kDec_at dA290_cX6_tryAsItIs 23 rfl
set_option maxRecDepth 20000 in
theorem ggX6_tryAsItIs_X5_get : GoodIn wsX6_tryAsItIs wsX5_get := goodIn_sub (fun _ h => List.mem_cons_of_mem _ (List.mem_append_left _ (List.mem_append_left _ (List.mem_append_right _ (h))))) gX5_get_all
set_option maxRecDepth 20000 in
theorem gX6_tryAsItIs_X5_get : GoodIn wsX6_tryAsItIs (wsV RX6 85 RX5 yX5_get wsX5_get) := goodIn_app (goodIn_r _ [2, 3, 4, 5] rfl (by decide +kernel)) ggX6_tryAsItIs_X5_get
set_option maxRecDepth 20000 in
theorem ggX6_tryAsItIs_X3_of : GoodIn wsX6_tryAsItIs wsX3_of := goodIn_sub (fun _ h => List.mem_cons_of_mem _ (List.mem_append_left _ (List.mem_append_right _ (h)))) gX3_of_all
set_option maxRecDepth 20000 in
theorem gX6_tryAsItIs_X3_of : GoodIn wsX6_tryAsItIs (wsV RX6 89 RX3 yX3_of wsX3_of) := goodIn_app (goodIn_r _ [6, 7, 8, 9] rfl (by decide +kernel)) ggX6_tryAsItIs_X3_of
set_option maxRecDepth 100000 in
theorem dA291_cX6_tryAsItIs : kDec cX6_tryAsItIs [(44, .aload_n 0, 1), (45, .iload_n 1, 1), (46, .iload 6, 2), (48, .iconst 1, 1), (49, .iadd, 1), (50, .iconst (-1), 1), (51, .iload 4, 2), (53, .aload_n 0, 1), (54, .getfield 47, 3), (57, .iload 7, 2), (59, .bipush 32, 2), (61, .invokevirtual 89, 3), (64, .iadd, 1), (65, .invokevirtual 94, 3), (68, .iinc 6 1, 3), (71, .goto (-61), 3)] = true := by decide +kernel
theorem dX6_tryAsItIs_44 : decode cX6_tryAsItIs 44 = .ok (.aload_n 0, 1) := kDec_at dA291_cX6_tryAsItIs 0 rfl
theorem dX6_tryAsItIs_45 : decode cX6_tryAsItIs 45 = .ok (.iload_n 1, 1) := kDec_at dA291_cX6_tryAsItIs 1 rfl
theorem dX6_tryAsItIs_46 : decode cX6_tryAsItIs 46 = .ok (.iload 6, 2) := kDec_at dA291_cX6_tryAsItIs 2 rfl
theorem dX6_tryAsItIs_48 : decode cX6_tryAsItIs 48 = .ok (.iconst 1, 1) := kDec_at dA291_cX6_tryAsItIs 3 rfl
theorem dX6_tryAsItIs_49 : decode cX6_tryAsItIs 49 = .ok (.iadd, 1) := kDec_at dA291_cX6_tryAsItIs 4 rfl
theorem dX6_tryAsItIs_50 : decode cX6_tryAsItIs 50 = .ok (.iconst (-1), 1) := kDec_at dA291_cX6_tryAsItIs 5 rfl
theorem dX6_tryAsItIs_51 : decode cX6_tryAsItIs 51 = .ok (.iload 4, 2) := kDec_at dA291_cX6_tryAsItIs 6 rfl
theorem dX6_tryAsItIs_53 : decode cX6_tryAsItIs 53 = .ok (.aload_n 0, 1) := kDec_at dA291_cX6_tryAsItIs 7 rfl
theorem dX6_tryAsItIs_54 : decode cX6_tryAsItIs 54 = .ok (.getfield 47, 3) := kDec_at dA291_cX6_tryAsItIs 8 rfl
theorem dX6_tryAsItIs_57 : decode cX6_tryAsItIs 57 = .ok (.iload 7, 2) := kDec_at dA291_cX6_tryAsItIs 9 rfl
theorem dX6_tryAsItIs_59 : decode cX6_tryAsItIs 59 = .ok (.bipush 32, 2) := kDec_at dA291_cX6_tryAsItIs 10 rfl
theorem dX6_tryAsItIs_61 : decode cX6_tryAsItIs 61 = .ok (.invokevirtual 89, 3) := kDec_at dA291_cX6_tryAsItIs 11 rfl
theorem dX6_tryAsItIs_64 : decode cX6_tryAsItIs 64 = .ok (.iadd, 1) := kDec_at dA291_cX6_tryAsItIs 12 rfl
theorem dX6_tryAsItIs_65 : decode cX6_tryAsItIs 65 = .ok (.invokevirtual 94, 3) := kDec_at dA291_cX6_tryAsItIs 13 rfl
theorem dX6_tryAsItIs_68 : decode cX6_tryAsItIs 68 = .ok (.iinc 6 1, 3) := kDec_at dA291_cX6_tryAsItIs 14 rfl
theorem dX6_tryAsItIs_71 : decode cX6_tryAsItIs 71 = .ok (.goto (-61), 3) := kDec_at dA291_cX6_tryAsItIs 15 rfl
set_option maxRecDepth 20000 in
theorem gX6_offer_all : wsX6_offer.all goodWord = true := by
  unfold wsX6_offer
  exact good_c (by decide +kernel) (good_a (good_a ((by decide +kernel)) gX6_clsall) gX6_isBetter_all)
set_option maxRecDepth 20000 in
theorem ggX6_tryAsItIs_X6_offer : GoodIn wsX6_tryAsItIs wsX6_offer := goodIn_sub (fun _ h => List.mem_cons_of_mem _ (List.mem_append_right _ (h))) gX6_offer_all
set_option maxRecDepth 20000 in
theorem gX6_tryAsItIs_X6_offer : GoodIn wsX6_tryAsItIs (wsV RX6 94 RX6 yX6_offer wsX6_offer) := goodIn_app (goodIn_r _ [10, 11, 12, 13] rfl (by decide +kernel)) ggX6_tryAsItIs_X6_offer

end

/-! 59y.parts -/
section
/-! parts() of the class: one harm undone, span by span; the parting laid together -/
theorem QOK_of {n : Int} {pr fr en h cs : Int32} {i : Nat} {Q1 Q1' Q2 Q2' Q3 Q3' Q4 Q4' : Nat → Int32} (ho : F_of pr fr en h cs Q1 Q1' Q2 Q2' Q3 Q3' Q4 Q4') (ei : fr.toInt = i) (hq : QOK n i Q1 Q2) : QOK n i Q1' Q2' := by
  have cf : fr.toNatClampNeg = i := ix_eq ei
  obtain ⟨sm, sp, s1, s2, s3⟩ := ho
  rw [cf] at s3
  rcases s3 with ⟨t1, t2, t3, t4, t5⟩ | ⟨t1, t2, t3, t4, t5, t6⟩
  · exact QOK_u hq (by omega) (Or.inl t2) (Or.inl t3)
  · rw [t3, t4]; exact hq
theorem QOK_0 {n m : Int} {k : Nat} {Q1 Q1' Q2 Q2' : Nat → Int32} (e1 : Q1' = upd Q1 k 0) (e2 : Q2' = upd Q2 k 0) (hk : (k : Int) = n) (hm : m = n - 1) : QOK n m Q1' Q2' := by
  intro j h1 h2
  have e : j = k := by omega
  have z : (0 : Int32).toInt = 0 := rfl
  rw [e1, e2, e, pk_us, pk_us, z]
  omega
theorem QOK_at {n m : Int} {Q1 Q2 : Nat → Int32} {en : Int32} (h : QOK n m Q1 Q2) (h1 : m < en.toInt) (h0 : 0 ≤ en.toInt) (h2 : en.toInt ≤ n) (h3 : n ≤ 60) (h4 : 0 ≤ m) : (0 ≤ (Q1 en.toNatClampNeg).toInt ∧ (Q1 en.toNatClampNeg).toInt ≤ 5000000) ∧ (0 ≤ (Q2 en.toNatClampNeg).toInt ∧ (Q2 en.toNatClampNeg).toInt ≤ 60) := by
  have c := v_clamp h0
  have q := h en.toNatClampNeg (by omega) (by omega)
  omega
section PR3
variable {U : Nat → Nat → (Nat → Int32) → Nat → (Nat → Int32) → Prop} {T : Int32 → Int32 → Int32}
theorem BFS_0 {z n : Nat} {f : Nat → Int32} {pr : Int} {A : Nat → Int → Prop} {i : Nat} {Q1 Q2 Q3 Q4 : Nat → Int32} (h : Q1 i = -1) (hA : ∀ (j : Nat) (h : Int), A j h → j ≤ i) : BFS U T z n f pr A i Q1 Q2 Q3 Q4 := Or.inl ⟨h, fun j h' s sp a c => by have := hA j h' a; have := c.1; omega⟩
/-- what lies behind i is bare of candidates of harm h from j on -/
theorem BFS_no {z n : Nat} {f : Nat → Int32} {pr : Int} {A A' : Nat → Int → Prop} {i : Nat} {Q1 Q2 Q3 Q4 : Nat → Int32} (b : BFS U T z n f pr A i Q1 Q2 Q3 Q4) (hA : ∀ (j : Nat) (h : Int), A j h → A' j h) (hA' : ∀ (j : Nat) (h : Int), i < j → j ≤ n → A' j h → A j h ∨ (0 ≤ h ∧ ∀ c f', ¬ U h.toNat (j - i) (fun k => f (i + k)) c f')) : BFS U T z n f pr A' i Q1 Q2 Q3 Q4 := by
  refine BFS_A b (fun j h s sp c => ⟨fun a => ?_, hA j h⟩)
  rcases hA' j h c.1 c.2.1 a with w | ⟨w1, w2⟩
  · exact w
  · obtain ⟨_, _, _, _, ⟨c', f', c5, _⟩, _⟩ := c
    rcases c5 with ⟨c5, _⟩ | ⟨_, c5⟩
    · omega
    · exact absurd c5 (w2 _ _)
end PR3
theorem hm_no {m a b : Int32} {g f L4 L5 : Nat → Int32} {Bf : Int32 → Int32} {n : Nat} (hw : WR (fun j => enc a (f j) (Bf (f j))) n m g) (hb : prg m.toInt 0 255 g) (h : ∀ c, rdOk (dl b L4 L5 g m.toInt) m.toInt c → 300 < c) : ∀ (c : Nat) (f2 : Nat → Int32), ¬ HM a b L4 L5 Bf n f c f2 := by
  have q := ps_no (r := 0) (l := 0) (f' := f) (n := (n : Int)) (b := b) (L4 := L4) (L5 := L5) (Bf := Bf) hw hb (fun _ => h) rfl
  rcases q with ⟨q, _⟩ | ⟨_, q⟩
  · exact absurd q (by decide)
  · exact q
theorem hm_enc {a b : Int32} {f L4 L5 : Nat → Int32} {Bf : Int32 → Int32} {n k : Nat} (hk : k < n) (he : enc a (f k) (Bf (f k)) = []) : ∀ (c : Nat) (f2 : Nat → Int32), ¬ HM a b L4 L5 Bf n f c f2 := by
  rintro c f2 ⟨m, g, a1, _⟩
  exact (a1.2 k hk).1 he
theorem WR_pre {E : Nat → List Int} {n n' : Nat} {l l' : Int32} {g g' : Nat → Int32} (h : WR E n l g) (hn : n ≤ n') (h' : WR E n' l' g') : l.toInt ≤ l'.toInt ∧ ∀ k : Nat, (k : Int) < l.toInt → g k = g' k := by
  have q : WR E n l g' := ⟨h.1, fun j hj => h'.2 j (by omega)⟩
  refine ⟨?_, (WR_eq h q).2⟩
  have := psE_le E n' hn
  rw [h.1, h'.1]
  omega
/-- more than 300 letters were read already -/
theorem hm_over {m a b re la su le : Int32} {g f L4 L5 : Nat → Int32} {Bf : Int32 → Int32} {n n' : Nat} {T : Int32 → Int32 → Int32} (hw : WR (fun j => enc a (f j) (Bf (f j))) n m g) (hn : n ≤ n') (hr : RS T re la su le (dl b L4 L5 g m.toInt) (dx b L4 L5 g m.toInt)) (h3 : 300 < le.toInt) (hre : re.toInt ≤ m.toInt) : ∀ (c : Nat) (f2 : Nat → Int32), ¬ HM a b L4 L5 Bf n' f c f2 := by
  rintro c f2 ⟨m', g', a1, a2, a3, a4, _⟩
  obtain ⟨e1, e2⟩ := WR_pre hw hn a1
  have up : ∀ p, ¬ dl b L4 L5 g m.toInt p = 0 → dl b L4 L5 g' m'.toInt p = dl b L4 L5 g m.toInt p ∧ dx b L4 L5 g' m'.toInt p = dx b L4 L5 g m.toInt p := fun p hp => dl_up e2 e1 hp
  obtain ⟨c0, r1, r2, r3, _⟩ := RS_up hr up
  have := psn_lt r2 c0 (show c < c0 by omega) (Nat.le_refl _)
  have := a3.1
  omega
theorem hm_yes {m a b re la su le : Int32} {g f L4 L5 : Nat → Int32} {Bf : Int32 → Int32} {n : Nat} {T : Int32 → Int32 → Int32} (hw : WR (fun j => enc a (f j) (Bf (f j))) n m g) (h9 : m.toInt ≤ 900) (hr : RS T re la su le (dl b L4 L5 g m.toInt) (dx b L4 L5 g m.toInt)) (h3 : le.toInt ≤ 300) (hre : re.toInt = m.toInt) : ∃ c f', HM a b L4 L5 Bf n f c f' ∧ ∀ s : Int32, s.toInt = su.toInt + cF (T la 32) la 32 → s.toInt = cT T c f' := by
  obtain ⟨c, r1, r2, r3, r4, r5⟩ := hr
  refine ⟨c, fun i => dx b L4 L5 g m.toInt (psn (dl b L4 L5 g m.toInt) i), ⟨m, g, hw, h9, ⟨by omega, r2⟩, by omega, fun _ _ => rfl⟩, fun s hs => ?_⟩
  unfold cT
  have e : ((c : Nat) : Int).toNat = c := by omega
  rw [e, ← r4, ← r5]
  exact hs
theorem hm_stop {m a b re la su le : Int32} {g f L4 L5 : Nat → Int32} {Bf : Int32 → Int32} {n : Nat} {T : Int32 → Int32 → Int32} (hw : WR (fun j => enc a (f j) (Bf (f j))) n m g) (hb : prg m.toInt 0 255 g) (hr : RS T re la su le (dl b L4 L5 g m.toInt) (dx b L4 L5 g m.toInt)) (h0 : dl b L4 L5 g m.toInt re.toNatClampNeg = 0) (hre : re.toInt < m.toInt) : ∀ (c : Nat) (f2 : Nat → Int32), ¬ HM a b L4 L5 Bf n f c f2 := by
  obtain ⟨c, r1, r2, r3, r4, r5⟩ := hr
  rw [ix_eq r1] at h0
  exact hm_no hw hb (fun c' w => absurd w (rd_stop r2 h0 (by omega) c'))
theorem wr_sh {E : Nat → List Int} {i i' l l' r cd x B : Int32} {g g' : Nat → Int32} {b : Nat} (h : WR E (i.toInt - b).toNat l g) (hE : E (i.toInt - b).toNat = enc cd x B) (hf : F_en r cd x B l l' g g') (hr : ¬ r.toInt = 0) (h0 : (b : Int) ≤ i.toInt) (hi' : i'.toInt = i.toInt + 1) : WR E (i'.toInt - b).toNat l' g' ∧ l.toInt ≤ l'.toInt ∧ ∀ j : Nat, (j : Int) < l.toInt → g j = g' j := by
  obtain ⟨e1, e2⟩ := F_en_1 hf hr
  have e : (i'.toInt - b).toNat = (i.toInt - b).toNat + 1 := by omega
  refine ⟨?_, by have := e2.1; omega, fun j hj => (e2.2.1 j hj).symm⟩
  rw [e]
  exact WR_s h (by rw [hE]; exact e1) (by rw [hE]; exact e2)
theorem addAll_ap {l l' lo r : Int32} {f f' g : Nat → Int32} (h : F_addAll 300 l l' lo r f f' g) (h0 : 0 ≤ l.toInt) (h1 : 0 ≤ lo.toInt) : (¬ r.toInt = 0 → l'.toInt = l.toInt + lo.toInt ∧ (∀ q : Nat, (q : Int) < l.toInt → f' q = f q) ∧ ∀ q : Nat, (q : Int) < lo.toInt → f' (l.toInt.toNat + q) = g q) ∧ (r.toInt = 0 → 300 < l.toInt + lo.toInt) := by
  have c1 := v_clamp h0
  have c2 := v_clamp h1
  rcases h with ⟨a1, a2, a3, a4⟩ | ⟨a1, a2, a3, a4⟩
  · refine ⟨fun _ => ⟨a2, fun q hq => ?_, fun q hq => ?_⟩, fun w => by rw [a3] at w; exact absurd w (by decide)⟩
    · rw [a4]
      unfold va_cpy
      rw [if_neg (by omega)]
    · rw [a4]
      unfold va_cpy
      rw [if_pos (by omega)]
      congr 1
      omega
  · exact ⟨fun w => absurd (by rw [a3]; rfl) w, fun _ => by omega⟩
section PR4
variable {U : Nat → Nat → (Nat → Int32) → Nat → (Nat → Int32) → Prop} {T : Int32 → Int32 → Int32}
/-- the spans laid together up to fr -/
def LYD (U : Nat → Nat → (Nat → Int32) → Nat → (Nat → Int32) → Prop) (n : Nat) (f E H : Nat → Int32) (fr l : Int32) (g : Nat → Int32) : Prop := ∃ k, RCH U n f E H k fr.toNatClampNeg l.toInt.toNat g
def F_lay (U : Nat → Nat → (Nat → Int32) → Nat → (Nat → Int32) → Prop) (n : Nat) (f E H : Nat → Int32) (r l : Int32) (g : Nat → Int32) : Prop := (r = 1 ∧ ∃ k, RCH U n f E H k n l.toInt.toNat g) ∨ (r = 0 ∧ ∃ (k i a : Nat) (fm : Nat → Int32), RCH U n f E H k i a fm ∧ 300 < a)
theorem lay_s {n m : Nat} {f E H g g2 g' : Nat → Int32} {fr fr' l l2 l' r : Int32} (h : LYD U n f E H fr l g) (hi : fr.toNatClampNeg < n) (hs : SPN U f fr.toNatClampNeg (E fr.toNatClampNeg).toInt.toNat (H fr.toNatClampNeg).toInt m g2) (hm : l2.toInt = m) (ha : F_addAll 300 l l' l2 r g g' g2) (h0 : 0 ≤ l.toInt) (hr : ¬ r.toInt = 0) (hf : fr'.toInt = (E fr.toNatClampNeg).toInt) (hE : 0 ≤ (E fr.toNatClampNeg).toInt) : LYD U n f E H fr' l' g' := by
  obtain ⟨k, hk⟩ := h
  obtain ⟨a1, a2, a3⟩ := (addAll_ap ha h0 (by omega)).1 hr
  have q := RCH_step hk hi hs (fm' := g') (fun q hq => a2 q (by omega)) (fun q hq => a3 q (by omega))
  have e1 : fr'.toNatClampNeg = (E fr.toNatClampNeg).toInt.toNat := ix_eq (by omega)
  have e2 : l'.toInt.toNat = l.toInt.toNat + m := by omega
  exact ⟨k + 1, by rw [e1, e2]; exact q⟩
theorem lay_no {n m : Nat} {f E H g g2 g' f' : Nat → Int32} {fr l l2 l' r q l9 : Int32} (h : LYD U n f E H fr l g) (hi : fr.toNatClampNeg < n) (hs : SPN U f fr.toNatClampNeg (E fr.toNatClampNeg).toInt.toNat (H fr.toNatClampNeg).toInt m g2) (hm : l2.toInt = m) (ha : F_addAll 300 l l' l2 r g g' g2) (h0 : 0 ≤ l.toInt) (hr : r.toInt = 0) (hq : q.toInt = 0) : F_lay U n f E H q l9 f' := by
  obtain ⟨k, hk⟩ := h
  have a := (addAll_ap ha h0 (by omega)).2 hr
  have st := RCH_step hk hi hs (fm' := fun q => if q < l.toInt.toNat then g q else g2 (q - l.toInt.toNat)) (fun q hq => if_pos hq) (fun q hq => by
    show (if l.toInt.toNat + q < l.toInt.toNat then _ else g2 (l.toInt.toNat + q - l.toInt.toNat)) = _
    rw [if_neg (by omega)]
    congr 1
    omega)
  exact Or.inr ⟨v_inj hq, _, _, _, _, st, by omega⟩
theorem lay_end {n : Nat} {f E H g : Nat → Int32} {fr l q : Int32} (h : LYD U n f E H fr l g) (hn : fr.toInt = n) (hq : q.toInt = 1) : F_lay U n f E H q l g := by
  obtain ⟨k, hk⟩ := h
  rw [ix_eq hn] at hk
  exact Or.inl ⟨v_inj hq, k, hk⟩
theorem lay_pt {z n : Nat} {f fm : Nat → Int32} {pr v : Int} {C S E H : Nat → Int32} {r l : Int32} (hB : PBK U T z n f pr 0 C S E H) (h : F_lay U n f E H r l fm) (hr : ¬ r.toInt = 0) (hl : 0 ≤ l.toInt ∧ l.toInt ≤ 300) (h0 : 1 ≤ n ∧ n ≤ 60 ∧ 0 ≤ pr ∧ pr ≤ 1000) (hv : v = (S 0).toInt) : ∃ c : Nat, l.toInt = c ∧ ptP U T z n f pr c fm v := by
  rcases h with ⟨_, k, hk⟩ | ⟨a, _⟩
  · exact ⟨l.toInt.toNat, by omega, h0, C, S, E, H, hB, hv, by omega, k, hk⟩
  · exact absurd (by rw [a]; rfl) hr
theorem lay_pn (hU : okU U) {z n : Nat} {f fm : Nat → Int32} {pr : Int} {C S E H : Nat → Int32} {r l : Int32} (hf : prg n 0 65535 f) (hB : PBK U T z n f pr 0 C S E H) (h : F_lay U n f E H r l fm) (hr : r.toInt = 0) : ∀ c fm v, ¬ ptP U T z n f pr c fm v := by
  rcases h with ⟨a, _⟩ | ⟨_, k, i, a, fm', hk, ha⟩
  · rw [a] at hr; exact absurd hr (by decide)
  · exact pt_big hU hf hB hk ha
theorem PBK_sp {z n : Nat} {f : Nat → Int32} {pr : Int} {C S E H : Nat → Int32} (a : PBK U T z n f pr 0 C S E H) : ∀ i : Nat, i < n → (i : Int) < (E i).toInt ∧ (E i).toInt ≤ n ∧ -1 ≤ (H i).toInt ∧ (H i).toInt < z ∧ ∃ c f', SPN U f i (E i).toInt.toNat (H i).toInt c f' := fun i hi => by
  obtain ⟨a0, a1, _⟩ := a i (by omega) hi
  obtain ⟨b1, b2, b3, b4, ⟨c, f', b5, _⟩, _⟩ := a1
  exact ⟨by omega, by omega, b3, b4, c, f', b5⟩
end PR4

set_option maxHeartbeats 40000000 in
set_option maxRecDepth 100000 in
theorem f_X6_tryAsItIs (l : Launch) (dC : Nat → ClassId) (dI : Nat → Nat → Nat) (cI cS : ClassId) (sz : Nat) (oQ : Nat) (nx : Nat) (oC : Nat) (oH : Nat) (oK : Nat) (oE : Nat) (nq : Nat) (np : Nat) (nv : Nat) (q1 : Nat) (q2 : Nat) (q3 : Nat) (q4 : Nat) (k1 : Nat) (k2 : Nat) (ax : Nat) (pr : Int32) (fQ1 : Nat → Int32) (fQ2 : Nat → Int32) (fQ3 : Nat → Int32) (fQ4 : Nat → Int32) (lK : Int32) (fK1 : Nat → Int32) (fK2 : Nat → Int32) (lx : Int32) (fx : Nat → Int32) (fr : Int32) (n : Int32) (g_pr : 0 ≤ pr.toInt ∧ pr.toInt ≤ 1000) (g_lK : 0 ≤ lK.toInt ∧ lK.toInt ≤ 300) (g_lx : 0 ≤ lx.toInt ∧ lx.toInt ≤ 300) (g_fr : 0 ≤ fr.toInt ∧ fr.toInt ≤ 59) (g_n : 1 ≤ n.toInt ∧ n.toInt ≤ 60) (hfn : fr.toInt < n.toInt) (hnl : n.toInt ≤ lx.toInt) (hlt : prg lx.toInt 0 65535 fx) (hq : QOK (n.toNatClampNeg : Int) (fr.toNatClampNeg : Int) fQ1 fQ2) (hm1 : fQ1 fr.toNatClampNeg = -1) (hT : HT 1024 1023 hsK fK1 fK2) (ho : (occ fK2 1024 : Int) ≤ lK.toInt) (hV : prg 1024 (-1) 200 fK2) : kMv l yX6_tryAsItIs wsX6_tryAsItIs ({ frames := 3, cells := 0, slots := 0, locals := 73 } : Room) [.ref oQ, .int fr, .ref nx, .int n] sz (dC, dI) vwCl [(cI, .int), (cS, .short)] [(oQ, .inr (6, [.ref oC, .ref oH, .ref oK, .ref oE, .ref nq, .ref np, .ref nv, .ref q1, .ref q2, .ref q3, .ref q4, .int pr])), (q1, .inl (cI, 61, .inl fQ1)), (q2, .inl (cI, 61, .inl fQ2)), (q3, .inl (cI, 61, .inl fQ3)), (q4, .inl (cI, 61, .inl fQ4)), (oK, .inr (3, [.ref k1, .ref k2, .int lK])), (k1, .inl (cI, 1024, .inl fK1)), (k2, .inl (cI, 1024, .inl fK2)), (nx, .inr (5, [.ref ax, .int lx])), (ax, .inl (cI, 300, .inl fx))] (fun _ => True) 0 0 (fun (A : Nat → Prop) (hh9 : Heap) => ∀ PZ9 : Prop, (∀ (fQ1' : Nat → Int32) (fQ2' : Nat → Int32) (fQ3' : Nat → Int32) (fQ4' : Nat → Int32), kPD (dC, dI) vwCl A [(oQ, .inr (6, [.ref oC, .ref oH, .ref oK, .ref oE, .ref nq, .ref np, .ref nv, .ref q1, .ref q2, .ref q3, .ref q4, .int pr])), (q1, .inl (cI, 61, .inl fQ1')), (q2, .inl (cI, 61, .inl fQ2')), (q3, .inl (cI, 61, .inl fQ3')), (q4, .inl (cI, 61, .inl fQ4')), (oK, .inr (3, [.ref k1, .ref k2, .int lK])), (k1, .inl (cI, 1024, .inl fK1)), (k2, .inl (cI, 1024, .inl fK2)), (nx, .inr (5, [.ref ax, .int lx])), (ax, .inl (cI, 300, .inl fx))] hh9 → (QOK (n.toNatClampNeg : Int) (fr.toNatClampNeg : Int) fQ1' fQ2') → (onlyI fr.toNatClampNeg fQ1 fQ1' fQ2 fQ2' fQ3 fQ3' fQ4 fQ4') → (∀ (U : Nat → Nat → (Nat → Int32) → Nat → (Nat → Int32) → Prop) (z : Nat), okU U → BFS U (tcC fK1 fK2) z n.toNatClampNeg fx pr.toInt (fun _ h => h = -1) fr.toNatClampNeg fQ1' fQ2' fQ3' fQ4') → PZ9) → PZ9) := by
  refine kMv_of (cc := cX6_tryAsItIs) (maxL := 8) (ret := none) (lv := [(0, .ref oQ), (1, .int fr), (2, .ref nx), (3, .int n)]) (by decide +kernel) rfl rfl (Nat.le_of_ble_eq_true rfl) ?_
  intro p e s m below meth c A QQ ls hx hb hr hts hml hown hlocks hA hQQ hK hX hP hD hS hl
  have hown : s.vm.findClass RX6 = some m.cls := hown
  have hcf := k_cf hx hb hml hown hts
  have in_X6 : ∀ w ∈ wsX60, w ∈ wsX6_tryAsItIs := fun _ h => List.mem_cons_of_mem _ (List.mem_append_left _ (List.mem_append_left _ (List.mem_append_left _ (List.mem_append_left _ (List.mem_append_left _ (List.mem_append_right _ (h)))))))
  have z0 : (0 : Int32).toInt = 0 := rfl
  have z1 : (1 : Int32).toInt = 1 := rfl
  have zm1 : (-1 : Int32).toInt = -1 := rfl
  have cn9 := v_clamp (x := n) (by omega)
  have cf9 := v_clamp (x := fr) (by omega)
  refine lv_iconst (v := 0) hx hb dX6_tryAsItIs_0 (by decide) ?_
  refine lv_istore (lv' := [(4, .int 0), (0, .ref oQ), (1, .int fr), (2, .ref nx), (3, .int n)]) hx hb dX6_tryAsItIs_1 hl (by decide) rfl (fun ls hl => ?_)
  refine lv_bipush (v := 32) hx hb dX6_tryAsItIs_3 (by decide) ?_
  refine lv_istore (lv' := [(5, .int 32), (4, .int 0), (0, .ref oQ), (1, .int fr), (2, .ref nx), (3, .int n)]) hx hb dX6_tryAsItIs_5 hl (by decide) rfl (fun ls hl => ?_)
  refine lv_iload_n hx hb dX6_tryAsItIs_7 rfl (lv_at hl 3 rfl) ?_
  refine lv_istore (lv' := [(6, .int fr), (5, .int 32), (4, .int 0), (0, .ref oQ), (1, .int fr), (2, .ref nx), (3, .int n)]) hx hb dX6_tryAsItIs_8 hl (by decide) rfl (fun ls hl => ?_)
  have LOOP_10 : ∀ (k_10 : Nat) (su : Int32) (la : Int32) (i : Int32) (fq1a : Nat → Int32) (fq2a : Nat → Int32) (fq3a : Nat → Int32) (fq4a : Nat → Int32) (H : Heap) (locs : List Loc) (ls : Array Slot), MSd (60 - i.toInt : Int) k_10 → (0 ≤ su.toInt ∧ su.toInt ≤ 12000) → (0 ≤ la.toInt ∧ la.toInt ≤ 65535) → (0 ≤ i.toInt ∧ i.toInt ≤ 60) → (fr.toInt ≤ i.toInt ∧ i.toInt ≤ n.toInt) → (su.toInt ≤ 200 * (i.toInt - fr.toInt)) → (su.toInt = cs (tcC fK1 fK2) (fun k => fx (fr.toNatClampNeg + k)) (i.toInt - (fr.toNatClampNeg : Int)).toNat) → (la = pv (fun k => fx (fr.toNatClampNeg + k)) (i.toInt - (fr.toNatClampNeg : Int)).toNat) → (QOK (n.toNatClampNeg : Int) (fr.toNatClampNeg : Int) fq1a fq2a) → (onlyI fr.toNatClampNeg fQ1 fq1a fQ2 fq2a fQ3 fq3a fQ4 fq4a) → (∀ (U : Nat → Nat → (Nat → Int32) → Nat → (Nat → Int32) → Prop) (z : Nat), okU U → BFS U (tcC fK1 fK2) z n.toNatClampNeg fx pr.toInt (fun j h => h = -1 ∧ (j : Int) ≤ i.toInt) fr.toNatClampNeg fq1a fq2a fq3a fq4a) → va_P (dC, dI) vwCl [(oQ, .inr (6, [.ref oC, .ref oH, .ref oK, .ref oE, .ref nq, .ref np, .ref nv, .ref q1, .ref q2, .ref q3, .ref q4, .int pr])), (q1, .inl (cI, 61, .inl fq1a)), (q2, .inl (cI, 61, .inl fq2a)), (q3, .inl (cI, 61, .inl fq3a)), (q4, .inl (cI, 61, .inl fq4a)), (oK, .inr (3, [.ref k1, .ref k2, .int lK])), (k1, .inl (cI, 1024, .inl fK1)), (k2, .inl (cI, 1024, .inl fK2)), (nx, .inr (5, [.ref ax, .int lx])), (ax, .inl (cI, 300, .inl fx))] H → va_D A [(oQ, .inr (6, [.ref oC, .ref oH, .ref oK, .ref oE, .ref nq, .ref np, .ref nv, .ref q1, .ref q2, .ref q3, .ref q4, .int pr])), (q1, .inl (cI, 61, .inl fq1a)), (q2, .inl (cI, 61, .inl fq2a)), (q3, .inl (cI, 61, .inl fq3a)), (q4, .inl (cI, 61, .inl fq4a)), (oK, .inr (3, [.ref k1, .ref k2, .int lK])), (k1, .inl (cI, 1024, .inl fK1)), (k2, .inl (cI, 1024, .inl fK2)), (nx, .inr (5, [.ref ax, .int lx])), (ax, .inl (cI, 300, .inl fx))] → va_S A s.heap H locs → lv_has ls 8 [(6, .int i), (5, .int la), (4, .int su), (0, .ref oQ), (1, .int fr), (2, .ref nx), (3, .int n)] → W p l e (headSpec wsX6_tryAsItIs ({ frames := 3, cells := 0, slots := 0, locals := 73 } : Room)).room s m ([.ref oQ, .int fr, .ref nx, .int n] : List Value).toArray below meth c H locs 0 0 (MQ below QQ ([.ref oQ, .int fr, .ref nx, .int n] : List Value).toArray s 0 0 A) (F0 m 10 ls []) := by
    clear hP hD hS hl
    intro k_10
    induction k_10 with
    | zero =>
      intro su la i fq1a fq2a fq3a fq4a H locs ls hm_10 g_su g_la g_i hif hs2 hsu hbe hqk hon hbf hP hD hS hl
      exact ms_0 hm_10
    | succ k_10 ih_10 =>
      intro su la i fq1a fq2a fq3a fq4a H locs ls hm_10 g_su g_la g_i hif hs2 hsu hbe hqk hon hbf hP hD hS hl
      refine lv_iload hx hb dX6_tryAsItIs_10 (lv_at hl 0 rfl) ?_
      refine lv_iload_n hx hb dX6_tryAsItIs_12 rfl (lv_at hl 6 rfl) ?_
      refine lv_icmp_ge (tgt := 74) hx hb dX6_tryAsItIs_13 (by decide) (fun c_1 => ?_) (fun c_1 => ?_)
      · have tc_1 : n.toInt ≤ i.toInt := v_le c_1
        exact kl_v hQQ hx hb hr hlocks hS dX6_tryAsItIs_74 (fun PZ9 kZ9 => kZ9 fq1a fq2a fq3a fq4a (⟨hP, hD⟩) (hqk) (hon) (fun U z hU => BFS_A (hbf U z hU) (fun j h s sp c9 => by have c8 := c9.2.1; show h = -1 ↔ (h = -1 ∧ (j : Int) ≤ i.toInt); omega)))
      · have tc_1 : i.toInt < n.toInt := v_nle c_1
        refine lv_aload_n hx hb dX6_tryAsItIs_16 rfl (lv_at hl 5 rfl) ?_
        refine lv_iload hx hb dX6_tryAsItIs_17 (lv_at hl 0 rfl) ?_
        refine kV_i (rest := []) (q0 := 0) (ci := 5) hcf (m_X5_get l dC dI cI cS H.size nx ax 300 lx fx i (by omega) (by omega)) kc_X5_get gX6_tryAsItIs_X5_get rfl rfl rfl ⟨Nat.le_of_ble_eq_true rfl, Nat.le_of_ble_eq_true rfl⟩ kX_t hK hP hD hS hA (posT mk_44 0) (posF mk_44 0) (kC_of mk_44 rfl rfl) (by decide +kernel) rfl rfl rfl hl rfl (Nat.le_of_ble_eq_true rfl) dX6_tryAsItIs_19 ⟨Nat.le_of_ble_eq_true rfl, Nat.le_of_ble_eq_true rfl⟩ (fun r_2 H locs hB hJ hSn => ?_)
        refine hB _ (fun hPD9 hf2_0 => ?_)
        clear hB
        obtain ⟨hPn, hDn⟩ := kJi (m := mk_44) hJ rfl hPD9.1 hPD9.2 (wn := [(oQ, .inr (6, [.ref oC, .ref oH, .ref oK, .ref oE, .ref nq, .ref np, .ref nv, .ref q1, .ref q2, .ref q3, .ref q4, .int pr])), (q1, .inl (cI, 61, .inl fq1a)), (q2, .inl (cI, 61, .inl fq2a)), (q3, .inl (cI, 61, .inl fq3a)), (q4, .inl (cI, 61, .inl fq4a)), (oK, .inr (3, [.ref k1, .ref k2, .int lK])), (k1, .inl (cI, 1024, .inl fK1)), (k2, .inl (cI, 1024, .inl fK2)), (nx, .inr (5, [.ref ax, .int lx])), (ax, .inl (cI, 300, .inl fx))]) rfl
        clear hP hD hS hJ hPD9
        have hP := hPn
        have hD := hDn
        have hS := hSn
        clear hPn hDn hSn
        have hg2 : r_2 = fx i.toNatClampNeg := F_get_f hf2_0 (by omega) (by omega)
        have hgr2 : 0 ≤ r_2.toInt ∧ r_2.toInt ≤ 65535 := prg_at hlt hg2 (by omega) (by omega)
        refine lv_istore (lv' := [(7, .int r_2), (6, .int i), (5, .int la), (4, .int su), (0, .ref oQ), (1, .int fr), (2, .ref nx), (3, .int n)]) hx hb dX6_tryAsItIs_22 hl (by decide) rfl (fun ls hl => ?_)
        refine lv_iload hx hb dX6_tryAsItIs_24 (lv_at hl 3 rfl) ?_
        refine lv_aload_n hx hb dX6_tryAsItIs_26 rfl (lv_at hl 4 rfl) ?_
        refine va_get (D := (dC, dI)) (ci := 6) (v := .ref oK) (C := RX6) (T := TX6) (N := 12) hx hb hts in_X6 hown hK hP 0 rfl rfl 2 (Nat.le_of_ble_eq_true rfl) (hts (.fieldLink RX6 47 "TextMender$Parting" "costs" "LTextMender$Costs;") (List.mem_of_getElem? (i := 1) rfl)) (fun _ h9 => h9) rfl dX6_tryAsItIs_27 ?_
        refine lv_iload hx hb dX6_tryAsItIs_30 (lv_at hl 2 rfl) ?_
        refine lv_iload hx hb dX6_tryAsItIs_32 (lv_at hl 0 rfl) ?_
        refine kV_i (rest := [.int su]) (q0 := 0) (ci := 3) hcf (f_X3_of l dC dI cI cS H.size oK k1 k2 lK fK1 fK2 la r_2 (g_lK) (g_la) (by omega) (hT) (ho) (hV)) kc_X3_of gX6_tryAsItIs_X3_of rfl rfl rfl ⟨Nat.le_of_ble_eq_true rfl, Nat.le_of_ble_eq_true rfl⟩ kX_t hK hP hD hS hA (posT mk_45 0) (posF mk_45 0) (kC_of mk_45 rfl rfl) (by decide +kernel) rfl rfl rfl hl rfl (Nat.le_of_ble_eq_true rfl) dX6_tryAsItIs_34 ⟨Nat.le_of_ble_eq_true rfl, Nat.le_of_ble_eq_true rfl⟩ (fun r_3 H locs hB hJ hSn => ?_)
        refine hB _ (fun hPD9 hf3_0 hf3_1 => ?_)
        clear hB
        obtain ⟨hPn, hDn⟩ := kJi (m := mk_45) hJ rfl hPD9.1 hPD9.2 (wn := [(oQ, .inr (6, [.ref oC, .ref oH, .ref oK, .ref oE, .ref nq, .ref np, .ref nv, .ref q1, .ref q2, .ref q3, .ref q4, .int pr])), (q1, .inl (cI, 61, .inl fq1a)), (q2, .inl (cI, 61, .inl fq2a)), (q3, .inl (cI, 61, .inl fq3a)), (q4, .inl (cI, 61, .inl fq4a)), (oK, .inr (3, [.ref k1, .ref k2, .int lK])), (k1, .inl (cI, 1024, .inl fK1)), (k2, .inl (cI, 1024, .inl fK2)), (nx, .inr (5, [.ref ax, .int lx])), (ax, .inl (cI, 300, .inl fx))]) rfl
        clear hP hD hS hJ hPD9
        have hP := hPn
        have hD := hDn
        have hS := hSn
        clear hPn hDn hSn
        refine lv_iadd hx hb dX6_tryAsItIs_37 ?_
        refine lv_topi (fun x_4 ex_4 => ?_)
        have tx_4 : x_4.toInt = su.toInt + r_3.toInt := v_addR ex_4 g_su hf3_0 (by decide) (by decide)
        refine lv_istore (lv' := [(4, .int x_4), (7, .int r_2), (6, .int i), (5, .int la), (0, .ref oQ), (1, .int fr), (2, .ref nx), (3, .int n)]) hx hb dX6_tryAsItIs_38 hl (by decide) rfl (fun ls hl => ?_)
        refine lv_iload hx hb dX6_tryAsItIs_40 (lv_at hl 1 rfl) ?_
        refine lv_istore (lv' := [(5, .int r_2), (4, .int x_4), (7, .int r_2), (6, .int i), (0, .ref oQ), (1, .int fr), (2, .ref nx), (3, .int n)]) hx hb dX6_tryAsItIs_42 hl (by decide) rfl (fun ls hl => ?_)
        refine lv_aload_n hx hb dX6_tryAsItIs_44 rfl (lv_at hl 4 rfl) ?_
        refine lv_iload_n hx hb dX6_tryAsItIs_45 rfl (lv_at hl 5 rfl) ?_
        refine lv_iload hx hb dX6_tryAsItIs_46 (lv_at hl 3 rfl) ?_
        refine lv_iconst (v := 1) hx hb dX6_tryAsItIs_48 (by decide) ?_
        refine lv_iadd hx hb dX6_tryAsItIs_49 ?_
        refine lv_topi (fun x_5 ex_5 => ?_)
        have tx_5 : x_5.toInt = i.toInt + 1 := v_addR (l2 := 1) (h2 := 1) ex_5 g_i (by decide) (by decide) (by decide)
        refine lv_iconst (v := (-1)) hx hb dX6_tryAsItIs_50 (by decide) ?_
        refine lv_iload hx hb dX6_tryAsItIs_51 (lv_at hl 1 rfl) ?_
        refine lv_aload_n hx hb dX6_tryAsItIs_53 rfl (lv_at hl 4 rfl) ?_
        refine va_get (D := (dC, dI)) (ci := 6) (v := .ref oK) (C := RX6) (T := TX6) (N := 12) hx hb hts in_X6 hown hK hP 0 rfl rfl 2 (Nat.le_of_ble_eq_true rfl) (hts (.fieldLink RX6 47 "TextMender$Parting" "costs" "LTextMender$Costs;") (List.mem_of_getElem? (i := 1) rfl)) (fun _ h9 => h9) rfl dX6_tryAsItIs_54 ?_
        refine lv_iload hx hb dX6_tryAsItIs_57 (lv_at hl 2 rfl) ?_
        refine lv_bipush (v := 32) hx hb dX6_tryAsItIs_59 (by decide) ?_
        refine kV_i (rest := [.int x_4, .int (-1), .int x_5, .int fr, .ref oQ]) (q0 := 0) (ci := 3) hcf (f_X3_of l dC dI cI cS H.size oK k1 k2 lK fK1 fK2 r_2 32 (g_lK) (by omega) (by decide) (hT) (ho) (hV)) kc_X3_of gX6_tryAsItIs_X3_of rfl rfl rfl ⟨Nat.le_of_ble_eq_true rfl, Nat.le_of_ble_eq_true rfl⟩ kX_t hK hP hD hS hA (posT mk_45 0) (posF mk_45 0) (kC_of mk_45 rfl rfl) (by decide +kernel) rfl rfl rfl hl rfl (Nat.le_of_ble_eq_true rfl) dX6_tryAsItIs_61 ⟨Nat.le_of_ble_eq_true rfl, Nat.le_of_ble_eq_true rfl⟩ (fun r_6 H locs hB hJ hSn => ?_)
        refine hB _ (fun hPD9 hf6_0 hf6_1 => ?_)
        clear hB
        obtain ⟨hPn, hDn⟩ := kJi (m := mk_45) hJ rfl hPD9.1 hPD9.2 (wn := [(oQ, .inr (6, [.ref oC, .ref oH, .ref oK, .ref oE, .ref nq, .ref np, .ref nv, .ref q1, .ref q2, .ref q3, .ref q4, .int pr])), (q1, .inl (cI, 61, .inl fq1a)), (q2, .inl (cI, 61, .inl fq2a)), (q3, .inl (cI, 61, .inl fq3a)), (q4, .inl (cI, 61, .inl fq4a)), (oK, .inr (3, [.ref k1, .ref k2, .int lK])), (k1, .inl (cI, 1024, .inl fK1)), (k2, .inl (cI, 1024, .inl fK2)), (nx, .inr (5, [.ref ax, .int lx])), (ax, .inl (cI, 300, .inl fx))]) rfl
        clear hP hD hS hJ hPD9
        have hP := hPn
        have hD := hDn
        have hS := hSn
        clear hPn hDn hSn
        refine lv_iadd hx hb dX6_tryAsItIs_64 ?_
        refine lv_topi (fun x_7 ex_7 => ?_)
        have tx_7 : x_7.toInt = x_4.toInt + r_6.toInt := v_addR ex_7 (v_sumR (l := 0) (h := 12200) tx_4 g_su hf3_0 (by decide) (by decide)) hf6_0 (by decide) (by decide)
        refine kV_v (rest := []) (q0 := 0) (ci := 6) hcf (f_X6_offer l dC dI cI cS H.size oQ oC oH oK oE nq np nv q1 q2 q3 q4 pr fq1a fq2a fq3a fq4a fr x_5 (-1) x_7 (g_pr) (g_fr) (by omega) (v_rr (v_sumR (l := 0) (h := 12400) tx_7 (v_sumR (l := 0) (h := 12200) tx_4 g_su hf3_0 (by decide) (by decide)) hf6_0 (by decide) (by decide)) (by decide) (by decide)) (by omega) ((QOK_at (en := x_5) hqk (by omega) (by omega) (by omega) (by omega) (by omega)).1) ((QOK_at (en := x_5) hqk (by omega) (by omega) (by omega) (by omega) (by omega)).2)) kc_X6_offer gX6_tryAsItIs_X6_offer rfl rfl rfl ⟨Nat.le_of_ble_eq_true rfl, Nat.le_of_ble_eq_true rfl⟩ kX_t hK hP hD hS hA (posT mk_46 0) (posF mk_46 0) (kC_of mk_46 rfl rfl) (by decide +kernel) rfl rfl rfl hl rfl (Nat.le_of_ble_eq_true rfl) dX6_tryAsItIs_65 ⟨Nat.le_of_ble_eq_true rfl, Nat.le_of_ble_eq_true rfl⟩ (fun H locs hB hJ hSn => ?_)
        refine hB _ (fun fQ1_8 fQ2_8 fQ3_8 fQ4_8 hPD9 hf8_0 => ?_)
        clear hB
        obtain ⟨hPn, hDn⟩ := kJi (m := mk_46) hJ rfl hPD9.1 hPD9.2 (wn := [(oQ, .inr (6, [.ref oC, .ref oH, .ref oK, .ref oE, .ref nq, .ref np, .ref nv, .ref q1, .ref q2, .ref q3, .ref q4, .int pr])), (q1, .inl (cI, 61, .inl fQ1_8)), (q2, .inl (cI, 61, .inl fQ2_8)), (q3, .inl (cI, 61, .inl fQ3_8)), (q4, .inl (cI, 61, .inl fQ4_8)), (oK, .inr (3, [.ref k1, .ref k2, .int lK])), (k1, .inl (cI, 1024, .inl fK1)), (k2, .inl (cI, 1024, .inl fK2)), (nx, .inr (5, [.ref ax, .int lx])), (ax, .inl (cI, 300, .inl fx))]) rfl
        clear hP hD hS hJ hPD9
        have hP := hPn
        have hD := hDn
        have hS := hSn
        clear hPn hDn hSn
        obtain ⟨x_9, ex_9⟩ : ∃ y : Int32, y = i + 1 := ⟨_, rfl⟩
        have tx_9 : x_9.toInt = i.toInt + 1 := v_addR (l2 := 1) (h2 := 1) ex_9 g_i (by decide) (by decide) (by decide)
        refine lv_iinc (v := x_9) (lv' := [(6, .int x_9), (5, .int r_2), (4, .int x_4), (7, .int r_2), (0, .ref oQ), (1, .int fr), (2, .ref nx), (3, .int n)]) hx hb dX6_tryAsItIs_68 hl (k := 3) rfl (by rw [ex_9]; rfl) (by decide) rfl (fun ls hl => ?_)
        refine lv_goto (tgt := 10) hx hb dX6_tryAsItIs_71 (by decide) ?_
        exact ih_10 x_4 r_2 x_9 fQ1_8 fQ2_8 fQ3_8 fQ4_8 _ _ _ (ms_lt hm_10 (by show ((60 - x_9.toInt : Int)) < 60 - i.toInt; omega) (by show (0 : Int) < 60 - i.toInt; omega)) (by show 0 ≤ x_4.toInt ∧ x_4.toInt ≤ 12000; omega) (by show 0 ≤ r_2.toInt ∧ r_2.toInt ≤ 65535; omega) (by show 0 ≤ x_9.toInt ∧ x_9.toInt ≤ 60; omega) (by show fr.toInt ≤ x_9.toInt ∧ x_9.toInt ≤ n.toInt; omega) (by show x_4.toInt ≤ 200 * (x_9.toInt - fr.toInt); omega) ((sh_s (i' := x_9) hsu hbe hg2 hf3_1 (by omega) (by omega) (by omega)).1) ((sh_s (i' := x_9) hsu hbe hg2 hf3_1 (by omega) (by omega) (by omega)).2) (QOK_of hf8_0 (by omega) hqk) (only_t hon (only_of hf8_0 (by omega))) (fun U z hU => (BFS_off hU (hbf U z hU) hf8_0 hqk (by omega) (fun j hj => hlt j (by omega)) (by omega) (by omega) (by omega) ⟨by omega, by omega⟩ (c := (x_9.toInt - (fr.toNatClampNeg : Int)).toNat) (g := (fun k => fx (fr.toNatClampNeg + k))) (Or.inl ⟨rfl, by have c9 := v_clamp (x := x_5) (by omega); omega, fun _ _ => rfl⟩) (sh_c (i := x_9) (sh_s hsu hbe hg2 hf3_1 (by omega) (by omega) (by omega)).1 (sh_s hsu hbe hg2 hf3_1 (by omega) (by omega) (by omega)).2 hf6_1 (by omega)) (by omega) (by omega) (fun j2 h2 => by have c9 := v_clamp (x := x_5) (by omega); show (h2 = -1 ∧ (j2 : Int) ≤ x_9.toInt) ↔ ((h2 = -1 ∧ (j2 : Int) ≤ i.toInt) ∨ (j2 = x_5.toNatClampNeg ∧ h2 = (-1 : Int32).toInt)); omega) (fun j2 h2 q9 => by have q8 : h2 = -1 ∧ (j2 : Int) ≤ i.toInt := q9; omega)).1) hP hD hS (lv_sub hl [0, 1, 2, 4, 5, 6, 7] rfl)
  exact LOOP_10 _ 0 32 fr fQ1 fQ2 fQ3 fQ4 _ _ _ (ms_s _) (by decide) (by decide) (v_rr g_fr (by decide) (by decide)) (by show fr.toInt ≤ fr.toInt ∧ fr.toInt ≤ n.toInt; omega) (by show 0 ≤ 200 * (fr.toInt - fr.toInt); omega) (by rw [show (fr.toInt - (fr.toNatClampNeg : Int)).toNat = 0 by omega]; rfl) (by rw [show (fr.toInt - (fr.toNatClampNeg : Int)).toNat = 0 by omega]; rfl) (hq) (only_r) (fun U z hU => BFS_0 hm1 (fun j h q9 => by have q8 : h = -1 ∧ (j : Int) ≤ fr.toInt := q9; omega)) hP hD hS (lv_sub hl [0, 1, 2, 3, 4, 5, 6] rfl)

end

/-! 59z.a.rows -/
section
set_option maxRecDepth 100000 in
theorem dA292_cX6_tryUndone : kDec cX6_tryUndone [(0, .aload_n 0, 1), (1, .getfield 56, 3), (4, .invokevirtual 98, 3), (7, .aload_n 0, 1), (8, .getfield 14, 3), (11, .iconst 0, 1), (12, .invokevirtual 101, 3), (15, .iload_n 2, 1), (16, .istore 5, 2), (18, .iload 5, 2), (20, .iload 4, 2), (22, .if_icmp .ge 114, 3), (136, .return_, 1), (25, .aload_n 0, 1), (26, .getfield 39, 3), (29, .aload_n 0, 1), (30, .getfield 43, 3), (33, .iload_n 1, 1), (34, .invokevirtual 104, 3), (37, .aload_n 3, 1), (38, .iload 5, 2), (40, .invokevirtual 85, 3), (43, .aload_n 0, 1), (44, .getfield 14, 3)] = true := by decide +kernel
theorem dX6_tryUndone_0 : decode cX6_tryUndone 0 = .ok (.aload_n 0, 1) := kDec_at dA292_cX6_tryUndone 0 rfl
theorem dX6_tryUndone_1 : decode cX6_tryUndone 1 = .ok (.getfield 56, 3) := kDec_at dA292_cX6_tryUndone 1 rfl
theorem dX6_tryUndone_4 : decode cX6_tryUndone 4 = .ok (.invokevirtual 98, 3) := kDec_at dA292_cX6_tryUndone 2 rfl
theorem dX6_tryUndone_7 : decode cX6_tryUndone 7 = .ok (.aload_n 0, 1) := kDec_at dA292_cX6_tryUndone 3 rfl
theorem dX6_tryUndone_8 : decode cX6_tryUndone 8 = .ok (.getfield 14, 3) := kDec_at dA292_cX6_tryUndone 4 rfl
theorem dX6_tryUndone_11 : decode cX6_tryUndone 11 = .ok (.iconst 0, 1) := kDec_at dA292_cX6_tryUndone 5 rfl
theorem dX6_tryUndone_12 : decode cX6_tryUndone 12 = .ok (.invokevirtual 101, 3) := kDec_at dA292_cX6_tryUndone 6 rfl
theorem dX6_tryUndone_15 : decode cX6_tryUndone 15 = .ok (.iload_n 2, 1) := kDec_at dA292_cX6_tryUndone 7 rfl
theorem dX6_tryUndone_16 : decode cX6_tryUndone 16 = .ok (.istore 5, 2) := kDec_at dA292_cX6_tryUndone 8 rfl
theorem dX6_tryUndone_18 : decode cX6_tryUndone 18 = .ok (.iload 5, 2) := kDec_at dA292_cX6_tryUndone 9 rfl
theorem dX6_tryUndone_20 : decode cX6_tryUndone 20 = .ok (.iload 4, 2) := kDec_at dA292_cX6_tryUndone 10 rfl
theorem dX6_tryUndone_22 : decode cX6_tryUndone 22 = .ok (.if_icmp .ge 114, 3) := kDec_at dA292_cX6_tryUndone 11 rfl
theorem dX6_tryUndone_136 : decode cX6_tryUndone 136 = .ok (.return_, 1) := kDec_at dA292_cX6_tryUndone 12 rfl
theorem dX6_tryUndone_25 : decode cX6_tryUndone 25 = .ok (.aload_n 0, 1) := kDec_at dA292_cX6_tryUndone 13 rfl
theorem dX6_tryUndone_26 : decode cX6_tryUndone 26 = .ok (.getfield 39, 3) := kDec_at dA292_cX6_tryUndone 14 rfl
theorem dX6_tryUndone_29 : decode cX6_tryUndone 29 = .ok (.aload_n 0, 1) := kDec_at dA292_cX6_tryUndone 15 rfl
theorem dX6_tryUndone_30 : decode cX6_tryUndone 30 = .ok (.getfield 43, 3) := kDec_at dA292_cX6_tryUndone 16 rfl
theorem dX6_tryUndone_33 : decode cX6_tryUndone 33 = .ok (.iload_n 1, 1) := kDec_at dA292_cX6_tryUndone 17 rfl
theorem dX6_tryUndone_34 : decode cX6_tryUndone 34 = .ok (.invokevirtual 104, 3) := kDec_at dA292_cX6_tryUndone 18 rfl
theorem dX6_tryUndone_37 : decode cX6_tryUndone 37 = .ok (.aload_n 3, 1) := kDec_at dA292_cX6_tryUndone 19 rfl
theorem dX6_tryUndone_38 : decode cX6_tryUndone 38 = .ok (.iload 5, 2) := kDec_at dA292_cX6_tryUndone 20 rfl
theorem dX6_tryUndone_40 : decode cX6_tryUndone 40 = .ok (.invokevirtual 85, 3) := kDec_at dA292_cX6_tryUndone 21 rfl
theorem dX6_tryUndone_43 : decode cX6_tryUndone 43 = .ok (.aload_n 0, 1) := kDec_at dA292_cX6_tryUndone 22 rfl
theorem dX6_tryUndone_44 : decode cX6_tryUndone 44 = .ok (.getfield 14, 3) := kDec_at dA292_cX6_tryUndone 23 rfl
set_option maxRecDepth 20000 in
theorem gX8_begin_all : wsX8_begin.all goodWord = true := by
  unfold wsX8_begin
  exact good_c (by decide +kernel) (good_a ((by decide +kernel)) gX8_clsall)
set_option maxRecDepth 20000 in
theorem ggX6_tryUndone_X8_begin : GoodIn wsX6_tryUndone wsX8_begin := goodIn_sub (fun _ h => List.mem_cons_of_mem _ (List.mem_append_left _ (List.mem_append_left _ (List.mem_append_left _ (List.mem_append_left _ (List.mem_append_left _ (List.mem_append_left _ (List.mem_append_left _ (List.mem_append_left _ (List.mem_append_left _ (List.mem_append_left _ (List.mem_append_left _ (List.mem_append_right _ (h)))))))))))))) gX8_begin_all
set_option maxRecDepth 20000 in
theorem gX6_tryUndone_X8_begin : GoodIn wsX6_tryUndone (wsV RX6 98 RX8 yX8_begin wsX8_begin) := goodIn_app (goodIn_r _ [5, 6, 7, 8] rfl (by decide +kernel)) ggX6_tryUndone_X8_begin
set_option maxRecDepth 20000 in
theorem ggX6_tryUndone_X5_cut : GoodIn wsX6_tryUndone wsX5_cut := goodIn_sub (fun _ h => List.mem_cons_of_mem _ (List.mem_append_left _ (List.mem_append_left _ (List.mem_append_left _ (List.mem_append_left _ (List.mem_append_left _ (List.mem_append_left _ (List.mem_append_left _ (List.mem_append_left _ (List.mem_append_left _ (List.mem_append_left _ (List.mem_append_right _ (h))))))))))))) gX5_cut_all
set_option maxRecDepth 20000 in
theorem gX6_tryUndone_X5_cut : GoodIn wsX6_tryUndone (wsV RX6 101 RX5 yX5_cut wsX5_cut) := goodIn_app (goodIn_r _ [9, 10, 11, 12] rfl (by decide +kernel)) ggX6_tryUndone_X5_cut
set_option maxRecDepth 20000 in
theorem gX4_readIn_all : wsX4_readIn.all goodWord = true := by
  unfold wsX4_readIn
  exact good_c (by decide +kernel) (good_a ((by decide +kernel)) gX4_clsall)
set_option maxRecDepth 20000 in
theorem ggX6_tryUndone_X4_readIn : GoodIn wsX6_tryUndone wsX4_readIn := goodIn_sub (fun _ h => List.mem_cons_of_mem _ (List.mem_append_left _ (List.mem_append_left _ (List.mem_append_left _ (List.mem_append_left _ (List.mem_append_left _ (List.mem_append_left _ (List.mem_append_left _ (List.mem_append_left _ (List.mem_append_left _ (List.mem_append_right _ (h)))))))))))) gX4_readIn_all
set_option maxRecDepth 20000 in
theorem gX6_tryUndone_X4_readIn : GoodIn wsX6_tryUndone (wsV RX6 104 RX4 yX4_readIn wsX4_readIn) := goodIn_app (goodIn_r _ [13, 14, 15, 16] rfl (by decide +kernel)) ggX6_tryUndone_X4_readIn
set_option maxRecDepth 20000 in
theorem ggX6_tryUndone_X5_get : GoodIn wsX6_tryUndone wsX5_get := goodIn_sub (fun _ h => List.mem_cons_of_mem _ (List.mem_append_left _ (List.mem_append_left _ (List.mem_append_left _ (List.mem_append_left _ (List.mem_append_left _ (List.mem_append_left _ (List.mem_append_left _ (List.mem_append_left _ (List.mem_append_right _ (h))))))))))) gX5_get_all
set_option maxRecDepth 20000 in
theorem gX6_tryUndone_X5_get : GoodIn wsX6_tryUndone (wsV RX6 85 RX5 yX5_get wsX5_get) := goodIn_app (goodIn_r _ [17, 18, 19, 12] rfl (by decide +kernel)) ggX6_tryUndone_X5_get
set_option maxRecDepth 20000 in
theorem ggX6_tryUndone_X2_encode : GoodIn wsX6_tryUndone wsX2_encode := goodIn_sub (fun _ h => List.mem_cons_of_mem _ (List.mem_append_left _ (List.mem_append_left _ (List.mem_append_left _ (List.mem_append_left _ (List.mem_append_left _ (List.mem_append_left _ (List.mem_append_left _ (List.mem_append_right _ (h)))))))))) gX2_encode_all
set_option maxRecDepth 20000 in
theorem gX6_tryUndone_X2_encode : GoodIn wsX6_tryUndone (wsV RX6 107 RX2 yX2_encode wsX2_encode) := goodIn_app (goodIn_r _ [20, 21, 22, 23] rfl (by decide +kernel)) ggX6_tryUndone_X2_encode
set_option maxRecDepth 100000 in
theorem dA293_cX6_tryUndone : kDec cX6_tryUndone [(47, .invokevirtual 107, 3), (50, .ifCond .ne 4, 3), (54, .aload_n 0, 1), (55, .getfield 56, 3), (58, .aload_n 0, 1), (59, .getfield 43, 3), (62, .iload_n 1, 1), (63, .invokevirtual 113, 3), (66, .aload_n 0, 1), (67, .getfield 14, 3), (70, .aload_n 0, 1), (71, .getfield 14, 3), (74, .invokevirtual 64, 3), (77, .invokevirtual 116, 3), (80, .aload_n 0, 1), (81, .getfield 56, 3), (84, .invokevirtual 119, 3), (87, .sipush 300, 3), (90, .if_icmp .le 4, 3), (94, .aload_n 0, 1), (95, .getfield 56, 3), (98, .invokevirtual 122, 3), (101, .aload_n 0, 1), (102, .getfield 14, 3)] = true := by decide +kernel
theorem dX6_tryUndone_47 : decode cX6_tryUndone 47 = .ok (.invokevirtual 107, 3) := kDec_at dA293_cX6_tryUndone 0 rfl
theorem dX6_tryUndone_50 : decode cX6_tryUndone 50 = .ok (.ifCond .ne 4, 3) := kDec_at dA293_cX6_tryUndone 1 rfl
theorem dX6_tryUndone_54 : decode cX6_tryUndone 54 = .ok (.aload_n 0, 1) := kDec_at dA293_cX6_tryUndone 2 rfl
theorem dX6_tryUndone_55 : decode cX6_tryUndone 55 = .ok (.getfield 56, 3) := kDec_at dA293_cX6_tryUndone 3 rfl
theorem dX6_tryUndone_58 : decode cX6_tryUndone 58 = .ok (.aload_n 0, 1) := kDec_at dA293_cX6_tryUndone 4 rfl
theorem dX6_tryUndone_59 : decode cX6_tryUndone 59 = .ok (.getfield 43, 3) := kDec_at dA293_cX6_tryUndone 5 rfl
theorem dX6_tryUndone_62 : decode cX6_tryUndone 62 = .ok (.iload_n 1, 1) := kDec_at dA293_cX6_tryUndone 6 rfl
theorem dX6_tryUndone_63 : decode cX6_tryUndone 63 = .ok (.invokevirtual 113, 3) := kDec_at dA293_cX6_tryUndone 7 rfl
theorem dX6_tryUndone_66 : decode cX6_tryUndone 66 = .ok (.aload_n 0, 1) := kDec_at dA293_cX6_tryUndone 8 rfl
theorem dX6_tryUndone_67 : decode cX6_tryUndone 67 = .ok (.getfield 14, 3) := kDec_at dA293_cX6_tryUndone 9 rfl
theorem dX6_tryUndone_70 : decode cX6_tryUndone 70 = .ok (.aload_n 0, 1) := kDec_at dA293_cX6_tryUndone 10 rfl
theorem dX6_tryUndone_71 : decode cX6_tryUndone 71 = .ok (.getfield 14, 3) := kDec_at dA293_cX6_tryUndone 11 rfl
theorem dX6_tryUndone_74 : decode cX6_tryUndone 74 = .ok (.invokevirtual 64, 3) := kDec_at dA293_cX6_tryUndone 12 rfl
theorem dX6_tryUndone_77 : decode cX6_tryUndone 77 = .ok (.invokevirtual 116, 3) := kDec_at dA293_cX6_tryUndone 13 rfl
theorem dX6_tryUndone_80 : decode cX6_tryUndone 80 = .ok (.aload_n 0, 1) := kDec_at dA293_cX6_tryUndone 14 rfl
theorem dX6_tryUndone_81 : decode cX6_tryUndone 81 = .ok (.getfield 56, 3) := kDec_at dA293_cX6_tryUndone 15 rfl
theorem dX6_tryUndone_84 : decode cX6_tryUndone 84 = .ok (.invokevirtual 119, 3) := kDec_at dA293_cX6_tryUndone 16 rfl
theorem dX6_tryUndone_87 : decode cX6_tryUndone 87 = .ok (.sipush 300, 3) := kDec_at dA293_cX6_tryUndone 17 rfl
theorem dX6_tryUndone_90 : decode cX6_tryUndone 90 = .ok (.if_icmp .le 4, 3) := kDec_at dA293_cX6_tryUndone 18 rfl
theorem dX6_tryUndone_94 : decode cX6_tryUndone 94 = .ok (.aload_n 0, 1) := kDec_at dA293_cX6_tryUndone 19 rfl
theorem dX6_tryUndone_95 : decode cX6_tryUndone 95 = .ok (.getfield 56, 3) := kDec_at dA293_cX6_tryUndone 20 rfl
theorem dX6_tryUndone_98 : decode cX6_tryUndone 98 = .ok (.invokevirtual 122, 3) := kDec_at dA293_cX6_tryUndone 21 rfl
theorem dX6_tryUndone_101 : decode cX6_tryUndone 101 = .ok (.aload_n 0, 1) := kDec_at dA293_cX6_tryUndone 22 rfl
theorem dX6_tryUndone_102 : decode cX6_tryUndone 102 = .ok (.getfield 14, 3) := kDec_at dA293_cX6_tryUndone 23 rfl
set_option maxRecDepth 20000 in
theorem gX4_writtenIn_all : wsX4_writtenIn.all goodWord = true := by
  unfold wsX4_writtenIn
  exact good_c (by decide +kernel) (good_a ((by decide +kernel)) gX4_clsall)
set_option maxRecDepth 20000 in
theorem ggX6_tryUndone_X4_writtenIn : GoodIn wsX6_tryUndone wsX4_writtenIn := goodIn_sub (fun _ h => List.mem_cons_of_mem _ (List.mem_append_left _ (List.mem_append_left _ (List.mem_append_left _ (List.mem_append_left _ (List.mem_append_left _ (List.mem_append_left _ (List.mem_append_right _ (h))))))))) gX4_writtenIn_all
set_option maxRecDepth 20000 in
theorem gX6_tryUndone_X4_writtenIn : GoodIn wsX6_tryUndone (wsV RX6 113 RX4 yX4_writtenIn wsX4_writtenIn) := goodIn_app (goodIn_r _ [24, 25, 26, 16] rfl (by decide +kernel)) ggX6_tryUndone_X4_writtenIn
set_option maxRecDepth 20000 in
theorem ggX6_tryUndone_X5_length : GoodIn wsX6_tryUndone wsX5_length := goodIn_sub (fun _ h => List.mem_cons_of_mem _ (List.mem_append_left _ (List.mem_append_left _ (List.mem_append_left _ (List.mem_append_left _ (List.mem_append_left _ (List.mem_append_right _ (h)))))))) gX5_length_all
set_option maxRecDepth 20000 in
theorem gX6_tryUndone_X5_length : GoodIn wsX6_tryUndone (wsV RX6 64 RX5 yX5_length wsX5_length) := goodIn_app (goodIn_r _ [27, 28, 29, 12] rfl (by decide +kernel)) ggX6_tryUndone_X5_length
set_option maxRecDepth 20000 in
theorem gX8_goOn_all : wsX8_goOn.all goodWord = true := by
  unfold wsX8_goOn
  exact good_c (by decide +kernel) (good_a (good_a (good_a (good_a (good_a (good_a ((by decide +kernel)) gX8_clsall) gX5_clsall) gX2_clsall) gX10_clsall) gX3_clsall) gX8_step_all)
set_option maxRecDepth 20000 in
theorem ggX6_tryUndone_X8_goOn : GoodIn wsX6_tryUndone wsX8_goOn := goodIn_sub (fun _ h => List.mem_cons_of_mem _ (List.mem_append_left _ (List.mem_append_left _ (List.mem_append_left _ (List.mem_append_left _ (List.mem_append_right _ (h))))))) gX8_goOn_all
set_option maxRecDepth 20000 in
theorem gX6_tryUndone_X8_goOn : GoodIn wsX6_tryUndone (wsV RX6 116 RX8 yX8_goOn wsX8_goOn) := goodIn_app (goodIn_r _ [30, 31, 32, 8] rfl (by decide +kernel)) ggX6_tryUndone_X8_goOn
set_option maxRecDepth 20000 in
theorem gX8_letters_all : wsX8_letters.all goodWord = true := by
  unfold wsX8_letters
  exact good_c (by decide +kernel) (good_a ((by decide +kernel)) gX8_clsall)
set_option maxRecDepth 20000 in
theorem ggX6_tryUndone_X8_letters : GoodIn wsX6_tryUndone wsX8_letters := goodIn_sub (fun _ h => List.mem_cons_of_mem _ (List.mem_append_left _ (List.mem_append_left _ (List.mem_append_left _ (List.mem_append_right _ (h)))))) gX8_letters_all
set_option maxRecDepth 20000 in
theorem gX6_tryUndone_X8_letters : GoodIn wsX6_tryUndone (wsV RX6 119 RX8 yX8_letters wsX8_letters) := goodIn_app (goodIn_r _ [33, 34, 35, 8] rfl (by decide +kernel)) ggX6_tryUndone_X8_letters
set_option maxRecDepth 20000 in
theorem gX8_reached_all : wsX8_reached.all goodWord = true := by
  unfold wsX8_reached
  exact good_c (by decide +kernel) (good_a ((by decide +kernel)) gX8_clsall)
set_option maxRecDepth 20000 in
theorem ggX6_tryUndone_X8_reached : GoodIn wsX6_tryUndone wsX8_reached := goodIn_sub (fun _ h => List.mem_cons_of_mem _ (List.mem_append_left _ (List.mem_append_left _ (List.mem_append_right _ (h))))) gX8_reached_all
set_option maxRecDepth 20000 in
theorem gX6_tryUndone_X8_reached : GoodIn wsX6_tryUndone (wsV RX6 122 RX8 yX8_reached wsX8_reached) := goodIn_app (goodIn_r _ [36, 37, 38, 8] rfl (by decide +kernel)) ggX6_tryUndone_X8_reached
set_option maxRecDepth 100000 in
theorem dA294_cX6_tryUndone : kDec cX6_tryUndone [(105, .invokevirtual 64, 3), (108, .if_icmp .ne 22, 3), (130, .iinc 5 1, 3), (133, .goto (-115), 3), (111, .aload_n 0, 1), (112, .iload_n 2, 1), (113, .iload 5, 2), (115, .iconst 1, 1), (116, .iadd, 1), (117, .iload_n 1, 1), (118, .aload_n 0, 1), (119, .getfield 56, 3), (122, .bipush 32, 2), (124, .invokevirtual 125, 3), (127, .invokevirtual 94, 3), (93, .return_, 1), (53, .return_, 1)] = true := by decide +kernel
theorem dX6_tryUndone_105 : decode cX6_tryUndone 105 = .ok (.invokevirtual 64, 3) := kDec_at dA294_cX6_tryUndone 0 rfl
theorem dX6_tryUndone_108 : decode cX6_tryUndone 108 = .ok (.if_icmp .ne 22, 3) := kDec_at dA294_cX6_tryUndone 1 rfl
theorem dX6_tryUndone_130 : decode cX6_tryUndone 130 = .ok (.iinc 5 1, 3) := kDec_at dA294_cX6_tryUndone 2 rfl
theorem dX6_tryUndone_133 : decode cX6_tryUndone 133 = .ok (.goto (-115), 3) := kDec_at dA294_cX6_tryUndone 3 rfl
theorem dX6_tryUndone_111 : decode cX6_tryUndone 111 = .ok (.aload_n 0, 1) := kDec_at dA294_cX6_tryUndone 4 rfl
theorem dX6_tryUndone_112 : decode cX6_tryUndone 112 = .ok (.iload_n 2, 1) := kDec_at dA294_cX6_tryUndone 5 rfl
theorem dX6_tryUndone_113 : decode cX6_tryUndone 113 = .ok (.iload 5, 2) := kDec_at dA294_cX6_tryUndone 6 rfl
theorem dX6_tryUndone_115 : decode cX6_tryUndone 115 = .ok (.iconst 1, 1) := kDec_at dA294_cX6_tryUndone 7 rfl
theorem dX6_tryUndone_116 : decode cX6_tryUndone 116 = .ok (.iadd, 1) := kDec_at dA294_cX6_tryUndone 8 rfl
theorem dX6_tryUndone_117 : decode cX6_tryUndone 117 = .ok (.iload_n 1, 1) := kDec_at dA294_cX6_tryUndone 9 rfl
theorem dX6_tryUndone_118 : decode cX6_tryUndone 118 = .ok (.aload_n 0, 1) := kDec_at dA294_cX6_tryUndone 10 rfl
theorem dX6_tryUndone_119 : decode cX6_tryUndone 119 = .ok (.getfield 56, 3) := kDec_at dA294_cX6_tryUndone 11 rfl
theorem dX6_tryUndone_122 : decode cX6_tryUndone 122 = .ok (.bipush 32, 2) := kDec_at dA294_cX6_tryUndone 12 rfl
theorem dX6_tryUndone_124 : decode cX6_tryUndone 124 = .ok (.invokevirtual 125, 3) := kDec_at dA294_cX6_tryUndone 13 rfl
theorem dX6_tryUndone_127 : decode cX6_tryUndone 127 = .ok (.invokevirtual 94, 3) := kDec_at dA294_cX6_tryUndone 14 rfl
theorem dX6_tryUndone_93 : decode cX6_tryUndone 93 = .ok (.return_, 1) := kDec_at dA294_cX6_tryUndone 15 rfl
theorem dX6_tryUndone_53 : decode cX6_tryUndone 53 = .ok (.return_, 1) := kDec_at dA294_cX6_tryUndone 16 rfl
set_option maxRecDepth 20000 in
theorem gX8_sumWith_all : wsX8_sumWith.all goodWord = true := by
  unfold wsX8_sumWith
  exact good_c (by decide +kernel) (good_a (good_a (good_a ((by decide +kernel)) gX8_clsall) gX3_clsall) gX3_of_all)
set_option maxRecDepth 20000 in
theorem ggX6_tryUndone_X8_sumWith : GoodIn wsX6_tryUndone wsX8_sumWith := goodIn_sub (fun _ h => List.mem_cons_of_mem _ (List.mem_append_left _ (List.mem_append_right _ (h)))) gX8_sumWith_all
set_option maxRecDepth 20000 in
theorem gX6_tryUndone_X8_sumWith : GoodIn wsX6_tryUndone (wsV RX6 125 RX8 yX8_sumWith wsX8_sumWith) := goodIn_app (goodIn_r _ [39, 40, 41, 8] rfl (by decide +kernel)) ggX6_tryUndone_X8_sumWith
set_option maxRecDepth 20000 in
theorem ggX6_tryUndone_X6_offer : GoodIn wsX6_tryUndone wsX6_offer := goodIn_sub (fun _ h => List.mem_cons_of_mem _ (List.mem_append_right _ (h))) gX6_offer_all
set_option maxRecDepth 20000 in
theorem gX6_tryUndone_X6_offer : GoodIn wsX6_tryUndone (wsV RX6 94 RX6 yX6_offer wsX6_offer) := goodIn_app (goodIn_r _ [42, 43, 44, 45] rfl (by decide +kernel)) ggX6_tryUndone_X6_offer

end

/-! 59z.parts -/
section
theorem un_or {h i : Int32} {j : Nat} {h2 : Int} {Q : Nat → Prop} (q : h2 < h.toInt + 1) (h0 : 0 ≤ h.toInt) (hQ : i.toInt < (j : Int) → Q h.toNatClampNeg) : (h2 < h.toInt ∨ (h2 = h.toInt ∧ (j : Int) ≤ i.toInt)) ∨ (0 ≤ h2 ∧ Q h2.toNat) := by
  by_cases w : h2 < h.toInt
  · exact Or.inl (Or.inl w)
  · by_cases w2 : (j : Int) ≤ i.toInt
    · exact Or.inl (Or.inr ⟨by omega, w2⟩)
    · have c := v_clamp h0
      have e : h2.toNat = h.toNatClampNeg := by omega
      exact Or.inr ⟨by omega, by rw [e]; exact hQ (by omega)⟩

theorem un_o2 {Q : Nat → Prop} {h i i' : Int32} {j : Nat} {h2 : Int} (q : h2 < h.toInt ∨ (h2 = h.toInt ∧ (j : Int) ≤ i'.toInt)) (h0 : 0 ≤ h.toInt) (hi : i'.toInt = i.toInt + 1) (hQ : (j : Int) = i.toInt + 1 → Q h.toNatClampNeg) : (h2 < h.toInt ∨ (h2 = h.toInt ∧ (j : Int) ≤ i.toInt)) ∨ (0 ≤ h2 ∧ Q h2.toNat) := by
  by_cases w : h2 < h.toInt
  · exact Or.inl (Or.inl w)
  · by_cases w2 : (j : Int) ≤ i.toInt
    · exact Or.inl (Or.inr ⟨by omega, w2⟩)
    · have c := v_clamp h0
      have e : h2.toNat = h.toNatClampNeg := by omega
      exact Or.inr ⟨by omega, by rw [e]; exact hQ (by omega)⟩
theorem un_jm {a b : Int32} {L4 L5 f : Nat → Int32} {Bf : Int32 → Int32} {m m' : Nat} (e : m = m') (h : ∀ (c : Nat) (f2 : Nat → Int32), ¬ HM a b L4 L5 Bf m f c f2) : ∀ (c : Nat) (f2 : Nat → Int32), ¬ HM a b L4 L5 Bf m' f c f2 := by rw [← e]; exact h

set_option maxHeartbeats 40000000 in
set_option maxRecDepth 100000 in
theorem f_X6_tryUndone (l : Launch) (dC : Nat → ClassId) (dI : Nat → Nat → Nat) (cI cS : ClassId) (sz : Nat) (oQ : Nat) (nx : Nat) (oC : Nat) (oH : Nat) (oK : Nat) (oE : Nat) (nq : Nat) (np : Nat) (nv : Nat) (q1 : Nat) (q2 : Nat) (q3 : Nat) (q4 : Nat) (aq : Nat) (oP : Nat) (h1 : Nat) (h2 : Nat) (o4 : Nat) (o5 : Nat) (a41 : Nat) (a42 : Nat) (a43 : Nat) (a51 : Nat) (a52 : Nat) (a53 : Nat) (k1 : Nat) (k2 : Nat) (ax : Nat) (pr : Int32) (fQ1 : Nat → Int32) (fQ2 : Nat → Int32) (fQ3 : Nat → Int32) (fQ4 : Nat → Int32) (lq : Int32) (fq : Nat → Int32) (reE : Int32) (laE : Int32) (suE : Int32) (leE : Int32) (lH : Int32) (fH1 : Nat → Int32) (fH2 : Nat → Int32) (l4 : Int32) (f41 : Nat → Int32) (f42 : Nat → Int32) (f43 : Nat → Int32) (l5 : Int32) (f51 : Nat → Int32) (f52 : Nat → Int32) (f53 : Nat → Int32) (lK : Int32) (fK1 : Nat → Int32) (fK2 : Nat → Int32) (lx : Int32) (fx : Nat → Int32) (h : Int32) (fr : Int32) (n : Int32) (g_pr : 0 ≤ pr.toInt ∧ pr.toInt ≤ 1000) (g_lq : 0 ≤ lq.toInt ∧ lq.toInt ≤ 480) (g_lH : 0 ≤ lH.toInt ∧ lH.toInt ≤ 6) (g_lK : 0 ≤ lK.toInt ∧ lK.toInt ≤ 300) (g_lx : 0 ≤ lx.toInt ∧ lx.toInt ≤ 300) (g_h : 0 ≤ h.toInt ∧ h.toInt ≤ 5) (g_fr : 0 ≤ fr.toInt ∧ fr.toInt ≤ 59) (g_n : 1 ≤ n.toInt ∧ n.toInt ≤ 60) (hfn : fr.toInt < n.toInt) (hnl : n.toInt ≤ lx.toInt) (hlt : prg lx.toInt 0 65535 fx) (hq : QOK (n.toNatClampNeg : Int) (fr.toNatClampNeg : Int) fQ1 fQ2) (hh : h.toInt < lH.toInt) (hb0 : BFS (UC fH1 fH2 f41 f42 f43 f51 f52 f53) (tcC fK1 fK2) lH.toNatClampNeg n.toNatClampNeg fx pr.toInt (fun _ h2 => h2 < h.toInt) fr.toNatClampNeg fQ1 fQ2 fQ3 fQ4) (hT4 : HT 512 511 hsT f42 f43) (ho4 : (occ f43 512 : Int) ≤ 511) (hT5 : HT 512 511 hsT f52 f53) (ho5 : (occ f53 512 : Int) ≤ 511) (hL4 : prg 256 (-1) 65535 f41) (hL5 : prg 256 (-1) 65535 f51) (hBr : ∀ cd : Int32, okB (Bc cd f42 f43 f52 f53)) (hT : HT 1024 1023 hsK fK1 fK2) (ho : (occ fK2 1024 : Int) ≤ lK.toInt) (hV : prg 1024 (-1) 200 fK2) : kMv l yX6_tryUndone wsX6_tryUndone ({ frames := 5, cells := 0, slots := 0, locals := 124 } : Room) [.ref oQ, .int h, .int fr, .ref nx, .int n] sz (dC, dI) vwCl [(cI, .int), (cS, .short)] [(oQ, .inr (6, [.ref oC, .ref oH, .ref oK, .ref oE, .ref nq, .ref np, .ref nv, .ref q1, .ref q2, .ref q3, .ref q4, .int pr])), (q1, .inl (cI, 61, .inl fQ1)), (q2, .inl (cI, 61, .inl fQ2)), (q3, .inl (cI, 61, .inl fQ3)), (q4, .inl (cI, 61, .inl fQ4)), (nq, .inr (5, [.ref aq, .int lq])), (aq, .inl (cI, 480, .inl fq)), (oE, .inr (8, [.ref oC, .ref oK, .int reE, .int laE, .int suE, .int leE])), (oH, .inr (4, [.ref oP, .ref h1, .ref h2, .int lH])), (h1, .inl (cI, 6, .inl fH1)), (h2, .inl (cI, 6, .inl fH2)), (oC, .inr (2, [.ref o4, .ref o5])), (o4, .inr (10, [.ref a41, .ref a42, .ref a43, .int l4])), (a41, .inl (cI, 256, .inl f41)), (a42, .inl (cI, 512, .inl f42)), (a43, .inl (cI, 512, .inl f43)), (o5, .inr (10, [.ref a51, .ref a52, .ref a53, .int l5])), (a51, .inl (cI, 256, .inl f51)), (a52, .inl (cI, 512, .inl f52)), (a53, .inl (cI, 512, .inl f53)), (oK, .inr (3, [.ref k1, .ref k2, .int lK])), (k1, .inl (cI, 1024, .inl fK1)), (k2, .inl (cI, 1024, .inl fK2)), (nx, .inr (5, [.ref ax, .int lx])), (ax, .inl (cI, 300, .inl fx))] (va_Nw (.methodLinkNest RX2 52 yX11_isLetter "TextMender")) 0 0 (fun (A : Nat → Prop) (hh9 : Heap) => ∀ PZ9 : Prop, (∀ (lq' : Int32) (fq' : Nat → Int32) (reE' : Int32) (laE' : Int32) (suE' : Int32) (leE' : Int32) (fQ1' : Nat → Int32) (fQ2' : Nat → Int32) (fQ3' : Nat → Int32) (fQ4' : Nat → Int32), kPD (dC, dI) vwCl A [(oQ, .inr (6, [.ref oC, .ref oH, .ref oK, .ref oE, .ref nq, .ref np, .ref nv, .ref q1, .ref q2, .ref q3, .ref q4, .int pr])), (q1, .inl (cI, 61, .inl fQ1')), (q2, .inl (cI, 61, .inl fQ2')), (q3, .inl (cI, 61, .inl fQ3')), (q4, .inl (cI, 61, .inl fQ4')), (nq, .inr (5, [.ref aq, .int lq'])), (aq, .inl (cI, 480, .inl fq')), (oE, .inr (8, [.ref oC, .ref oK, .int reE', .int laE', .int suE', .int leE'])), (oH, .inr (4, [.ref oP, .ref h1, .ref h2, .int lH])), (h1, .inl (cI, 6, .inl fH1)), (h2, .inl (cI, 6, .inl fH2)), (oC, .inr (2, [.ref o4, .ref o5])), (o4, .inr (10, [.ref a41, .ref a42, .ref a43, .int l4])), (a41, .inl (cI, 256, .inl f41)), (a42, .inl (cI, 512, .inl f42)), (a43, .inl (cI, 512, .inl f43)), (o5, .inr (10, [.ref a51, .ref a52, .ref a53, .int l5])), (a51, .inl (cI, 256, .inl f51)), (a52, .inl (cI, 512, .inl f52)), (a53, .inl (cI, 512, .inl f53)), (oK, .inr (3, [.ref k1, .ref k2, .int lK])), (k1, .inl (cI, 1024, .inl fK1)), (k2, .inl (cI, 1024, .inl fK2)), (nx, .inr (5, [.ref ax, .int lx])), (ax, .inl (cI, 300, .inl fx))] hh9 → (0 ≤ lq'.toInt ∧ lq'.toInt ≤ 480) → (QOK (n.toNatClampNeg : Int) (fr.toNatClampNeg : Int) fQ1' fQ2') → (onlyI fr.toNatClampNeg fQ1 fQ1' fQ2 fQ2' fQ3 fQ3' fQ4 fQ4') → (BFS (UC fH1 fH2 f41 f42 f43 f51 f52 f53) (tcC fK1 fK2) lH.toNatClampNeg n.toNatClampNeg fx pr.toInt (fun _ h2 => h2 < h.toInt + 1) fr.toNatClampNeg fQ1' fQ2' fQ3' fQ4') → PZ9) → PZ9) := by
  refine kMv_of (cc := cX6_tryUndone) (maxL := 6) (ret := none) (lv := [(0, .ref oQ), (1, .int h), (2, .int fr), (3, .ref nx), (4, .int n)]) (by decide +kernel) rfl rfl (Nat.le_of_ble_eq_true rfl) ?_
  intro p e s m below meth c A QQ ls hx hb hr hts hml hown hlocks hA hQQ hK hX hP hD hS hl
  have hown : s.vm.findClass RX6 = some m.cls := hown
  have hcf := k_cf hx hb hml hown hts
  have hN52 := hX
  have in_X6 : ∀ w ∈ wsX60, w ∈ wsX6_tryUndone := fun _ h => List.mem_cons_of_mem _ (List.mem_append_left _ (List.mem_append_left _ (List.mem_append_left _ (List.mem_append_left _ (List.mem_append_left _ (List.mem_append_left _ (List.mem_append_left _ (List.mem_append_left _ (List.mem_append_left _ (List.mem_append_left _ (List.mem_append_left _ (List.mem_append_left _ (List.mem_append_left _ (List.mem_append_left _ (List.mem_append_left _ (List.mem_append_left _ (List.mem_append_left _ (List.mem_append_left _ (List.mem_append_right _ (h))))))))))))))))))))
  have z0 : (0 : Int32).toInt = 0 := rfl
  have z1 : (1 : Int32).toInt = 1 := rfl
  have zm1 : (-1 : Int32).toInt = -1 := rfl
  have cn9 := v_clamp (x := n) (by omega)
  have cf9 := v_clamp (x := fr) (by omega)
  have okU9 : okU (UC fH1 fH2 f41 f42 f43 f51 f52 f53) := okU_C hBr hL4 hL5
  have cz9 := v_clamp (x := lH) (by omega)
  have ch9 := v_clamp (x := h) (by omega)
  refine lv_aload_n hx hb dX6_tryUndone_0 rfl (lv_at hl 0 rfl) ?_
  refine va_get (D := (dC, dI)) (ci := 6) (v := .ref oE) (C := RX6) (T := TX6) (N := 12) hx hb hts in_X6 hown hK hP 0 rfl rfl 3 (Nat.le_of_ble_eq_true rfl) (hts (.fieldLink RX6 56 "TextMender$Parting" "reading" "LTextMender$Reading;") (List.mem_of_getElem? (i := 1) rfl)) (fun _ h9 => h9) rfl dX6_tryUndone_1 ?_
  refine kV_v (rest := []) (q0 := 0) (ci := 8) hcf (f_X8_begin l dC dI cI cS s.heap.size oE oC oK reE laE suE leE ) kc_X8_begin gX6_tryUndone_X8_begin rfl rfl rfl ⟨Nat.le_of_ble_eq_true rfl, Nat.le_of_ble_eq_true rfl⟩ kX_t hK hP hD hS hA (posT mk_47 0) (posF mk_47 0) (kC_of mk_47 rfl rfl) (by decide +kernel) rfl rfl rfl hl rfl (Nat.le_of_ble_eq_true rfl) dX6_tryUndone_4 ⟨Nat.le_of_ble_eq_true rfl, Nat.le_of_ble_eq_true rfl⟩ (fun H locs hB hJ hSn => ?_)
  refine hB _ (fun reE_1 laE_1 suE_1 leE_1 hPD9 hf1_0 => ?_)
  clear hB
  obtain ⟨hPn, hDn⟩ := kJi (m := mk_47) hJ rfl hPD9.1 hPD9.2 (wn := [(oQ, .inr (6, [.ref oC, .ref oH, .ref oK, .ref oE, .ref nq, .ref np, .ref nv, .ref q1, .ref q2, .ref q3, .ref q4, .int pr])), (q1, .inl (cI, 61, .inl fQ1)), (q2, .inl (cI, 61, .inl fQ2)), (q3, .inl (cI, 61, .inl fQ3)), (q4, .inl (cI, 61, .inl fQ4)), (nq, .inr (5, [.ref aq, .int lq])), (aq, .inl (cI, 480, .inl fq)), (oE, .inr (8, [.ref oC, .ref oK, .int reE_1, .int laE_1, .int suE_1, .int leE_1])), (oH, .inr (4, [.ref oP, .ref h1, .ref h2, .int lH])), (h1, .inl (cI, 6, .inl fH1)), (h2, .inl (cI, 6, .inl fH2)), (oC, .inr (2, [.ref o4, .ref o5])), (o4, .inr (10, [.ref a41, .ref a42, .ref a43, .int l4])), (a41, .inl (cI, 256, .inl f41)), (a42, .inl (cI, 512, .inl f42)), (a43, .inl (cI, 512, .inl f43)), (o5, .inr (10, [.ref a51, .ref a52, .ref a53, .int l5])), (a51, .inl (cI, 256, .inl f51)), (a52, .inl (cI, 512, .inl f52)), (a53, .inl (cI, 512, .inl f53)), (oK, .inr (3, [.ref k1, .ref k2, .int lK])), (k1, .inl (cI, 1024, .inl fK1)), (k2, .inl (cI, 1024, .inl fK2)), (nx, .inr (5, [.ref ax, .int lx])), (ax, .inl (cI, 300, .inl fx))]) rfl
  clear hP hD hS hJ hPD9
  have hP := hPn
  have hD := hDn
  have hS := hSn
  clear hPn hDn hSn
  obtain ⟨hb1, hb2, hb3, hb4⟩ := hf1_0
  have hb5 := v_eq hb1
  have hb6 := v_eq hb3
  have hb7 := v_eq hb4
  have hb8 := v_eq hb2
  have z32 : (32 : Int32).toInt = 32 := rfl
  refine lv_aload_n hx hb dX6_tryUndone_7 rfl (lv_at hl 0 rfl) ?_
  refine va_get (D := (dC, dI)) (ci := 6) (v := .ref nq) (C := RX6) (T := TX6) (N := 12) hx hb hts in_X6 hown hK hP 0 rfl rfl 4 (Nat.le_of_ble_eq_true rfl) (hts (.fieldLink RX6 14 "TextMender$Parting" "bytes" "LTextMender$Numbers;") (List.mem_of_getElem? (i := 2) rfl)) (fun _ h9 => h9) rfl dX6_tryUndone_8 ?_
  refine lv_iconst (v := 0) hx hb dX6_tryUndone_11 (by decide) ?_
  refine kV_v (rest := []) (q0 := 0) (ci := 5) hcf (m_X5_cut l dC dI cI cS H.size nq aq lq 0 (v_rr g_lq (by decide) (by decide))) kc_X5_cut gX6_tryUndone_X5_cut rfl rfl rfl ⟨Nat.le_of_ble_eq_true rfl, Nat.le_of_ble_eq_true rfl⟩ kX_t hK hP hD hS hA (posT mk_48 0) (posF mk_48 0) (kC_of mk_48 rfl rfl) (by decide +kernel) rfl rfl rfl hl rfl (Nat.le_of_ble_eq_true rfl) dX6_tryUndone_12 ⟨Nat.le_of_ble_eq_true rfl, Nat.le_of_ble_eq_true rfl⟩ (fun H locs hB hJ hSn => ?_)
  refine hB _ (fun lu_2 hPD9 hf2_0 hf2_1 hf2_2 => ?_)
  clear hB
  obtain ⟨hPn, hDn⟩ := kJi (m := mk_48) hJ rfl hPD9.1 hPD9.2 (wn := [(oQ, .inr (6, [.ref oC, .ref oH, .ref oK, .ref oE, .ref nq, .ref np, .ref nv, .ref q1, .ref q2, .ref q3, .ref q4, .int pr])), (q1, .inl (cI, 61, .inl fQ1)), (q2, .inl (cI, 61, .inl fQ2)), (q3, .inl (cI, 61, .inl fQ3)), (q4, .inl (cI, 61, .inl fQ4)), (nq, .inr (5, [.ref aq, .int lu_2])), (aq, .inl (cI, 480, .inl fq)), (oE, .inr (8, [.ref oC, .ref oK, .int reE_1, .int laE_1, .int suE_1, .int leE_1])), (oH, .inr (4, [.ref oP, .ref h1, .ref h2, .int lH])), (h1, .inl (cI, 6, .inl fH1)), (h2, .inl (cI, 6, .inl fH2)), (oC, .inr (2, [.ref o4, .ref o5])), (o4, .inr (10, [.ref a41, .ref a42, .ref a43, .int l4])), (a41, .inl (cI, 256, .inl f41)), (a42, .inl (cI, 512, .inl f42)), (a43, .inl (cI, 512, .inl f43)), (o5, .inr (10, [.ref a51, .ref a52, .ref a53, .int l5])), (a51, .inl (cI, 256, .inl f51)), (a52, .inl (cI, 512, .inl f52)), (a53, .inl (cI, 512, .inl f53)), (oK, .inr (3, [.ref k1, .ref k2, .int lK])), (k1, .inl (cI, 1024, .inl fK1)), (k2, .inl (cI, 1024, .inl fK2)), (nx, .inr (5, [.ref ax, .int lx])), (ax, .inl (cI, 300, .inl fx))]) rfl
  clear hP hD hS hJ hPD9
  have hP := hPn
  have hD := hDn
  have hS := hSn
  clear hPn hDn hSn
  have ha2 : lu_2.toInt = 0 := F_cut_l hf2_2 (by first | decide | omega) (by first | omega | (show (0 : Int) ≤ _; omega))
  refine lv_iload_n hx hb dX6_tryUndone_15 rfl (lv_at hl 2 rfl) ?_
  refine lv_istore (lv' := [(5, .int fr), (0, .ref oQ), (1, .int h), (2, .int fr), (3, .ref nx), (4, .int n)]) hx hb dX6_tryUndone_16 hl (by decide) rfl (fun ls hl => ?_)
  have LOOP_18 : ∀ (k_18 : Nat) (i : Int32) (rea : Int32) (laa : Int32) (sua : Int32) (lea : Int32) (lqa : Int32) (fq1a : Nat → Int32) (fq2a : Nat → Int32) (fq3a : Nat → Int32) (fq4a : Nat → Int32) (fqa : Nat → Int32) (H : Heap) (locs : List Loc) (ls : Array Slot), MSd (60 - i.toInt : Int) k_18 → (0 ≤ i.toInt ∧ i.toInt ≤ 60) → (0 ≤ rea.toInt ∧ rea.toInt ≤ 2400) → (0 ≤ laa.toInt ∧ laa.toInt ≤ 65535) → (0 ≤ sua.toInt ∧ sua.toInt ≤ 480000) → (0 ≤ lea.toInt ∧ lea.toInt ≤ 2400) → (0 ≤ lqa.toInt ∧ lqa.toInt ≤ 480) → (fr.toInt ≤ i.toInt ∧ i.toInt ≤ n.toInt) → (lqa.toInt ≤ 8 * (i.toInt - fr.toInt)) → (sua.toInt ≤ 200 * lea.toInt ∧ lea.toInt ≤ rea.toInt ∧ rea.toInt ≤ lqa.toInt ∧ lea.toInt ≤ 300) → (WR (fun j => enc (fH2 h.toNatClampNeg) ((fun k => fx (fr.toNatClampNeg + k)) j) (Bc (fH2 h.toNatClampNeg) f42 f43 f52 f53 ((fun k => fx (fr.toNatClampNeg + k)) j))) (i.toInt - (fr.toNatClampNeg : Int)).toNat lqa fqa) → (RS (tcC fK1 fK2) rea laa sua lea (dl (fH1 h.toNatClampNeg) f41 f51 fqa lqa.toInt) (dx (fH1 h.toNatClampNeg) f41 f51 fqa lqa.toInt)) → (QOK (n.toNatClampNeg : Int) (fr.toNatClampNeg : Int) fq1a fq2a) → (onlyI fr.toNatClampNeg fQ1 fq1a fQ2 fq2a fQ3 fq3a fQ4 fq4a) → (BFS (UC fH1 fH2 f41 f42 f43 f51 f52 f53) (tcC fK1 fK2) lH.toNatClampNeg n.toNatClampNeg fx pr.toInt (fun j h2 => h2 < h.toInt ∨ (h2 = h.toInt ∧ (j : Int) ≤ i.toInt)) fr.toNatClampNeg fq1a fq2a fq3a fq4a) → va_P (dC, dI) vwCl [(oQ, .inr (6, [.ref oC, .ref oH, .ref oK, .ref oE, .ref nq, .ref np, .ref nv, .ref q1, .ref q2, .ref q3, .ref q4, .int pr])), (q1, .inl (cI, 61, .inl fq1a)), (q2, .inl (cI, 61, .inl fq2a)), (q3, .inl (cI, 61, .inl fq3a)), (q4, .inl (cI, 61, .inl fq4a)), (nq, .inr (5, [.ref aq, .int lqa])), (aq, .inl (cI, 480, .inl fqa)), (oE, .inr (8, [.ref oC, .ref oK, .int rea, .int laa, .int sua, .int lea])), (oH, .inr (4, [.ref oP, .ref h1, .ref h2, .int lH])), (h1, .inl (cI, 6, .inl fH1)), (h2, .inl (cI, 6, .inl fH2)), (oC, .inr (2, [.ref o4, .ref o5])), (o4, .inr (10, [.ref a41, .ref a42, .ref a43, .int l4])), (a41, .inl (cI, 256, .inl f41)), (a42, .inl (cI, 512, .inl f42)), (a43, .inl (cI, 512, .inl f43)), (o5, .inr (10, [.ref a51, .ref a52, .ref a53, .int l5])), (a51, .inl (cI, 256, .inl f51)), (a52, .inl (cI, 512, .inl f52)), (a53, .inl (cI, 512, .inl f53)), (oK, .inr (3, [.ref k1, .ref k2, .int lK])), (k1, .inl (cI, 1024, .inl fK1)), (k2, .inl (cI, 1024, .inl fK2)), (nx, .inr (5, [.ref ax, .int lx])), (ax, .inl (cI, 300, .inl fx))] H → va_D A [(oQ, .inr (6, [.ref oC, .ref oH, .ref oK, .ref oE, .ref nq, .ref np, .ref nv, .ref q1, .ref q2, .ref q3, .ref q4, .int pr])), (q1, .inl (cI, 61, .inl fq1a)), (q2, .inl (cI, 61, .inl fq2a)), (q3, .inl (cI, 61, .inl fq3a)), (q4, .inl (cI, 61, .inl fq4a)), (nq, .inr (5, [.ref aq, .int lqa])), (aq, .inl (cI, 480, .inl fqa)), (oE, .inr (8, [.ref oC, .ref oK, .int rea, .int laa, .int sua, .int lea])), (oH, .inr (4, [.ref oP, .ref h1, .ref h2, .int lH])), (h1, .inl (cI, 6, .inl fH1)), (h2, .inl (cI, 6, .inl fH2)), (oC, .inr (2, [.ref o4, .ref o5])), (o4, .inr (10, [.ref a41, .ref a42, .ref a43, .int l4])), (a41, .inl (cI, 256, .inl f41)), (a42, .inl (cI, 512, .inl f42)), (a43, .inl (cI, 512, .inl f43)), (o5, .inr (10, [.ref a51, .ref a52, .ref a53, .int l5])), (a51, .inl (cI, 256, .inl f51)), (a52, .inl (cI, 512, .inl f52)), (a53, .inl (cI, 512, .inl f53)), (oK, .inr (3, [.ref k1, .ref k2, .int lK])), (k1, .inl (cI, 1024, .inl fK1)), (k2, .inl (cI, 1024, .inl fK2)), (nx, .inr (5, [.ref ax, .int lx])), (ax, .inl (cI, 300, .inl fx))] → va_S A s.heap H locs → lv_has ls 6 [(5, .int i), (0, .ref oQ), (1, .int h), (2, .int fr), (3, .ref nx), (4, .int n)] → W p l e (headSpec wsX6_tryUndone ({ frames := 5, cells := 0, slots := 0, locals := 124 } : Room)).room s m ([.ref oQ, .int h, .int fr, .ref nx, .int n] : List Value).toArray below meth c H locs 0 0 (MQ below QQ ([.ref oQ, .int h, .int fr, .ref nx, .int n] : List Value).toArray s 0 0 A) (F0 m 18 ls []) := by
    clear hP hD hS hl
    try (clear ha2 hf2_0 hf2_1 hf2_2 hb8 hb7 hb6 hb5 hf1_0 g_lq)
    intro k_18
    induction k_18 with
    | zero =>
      intro i rea laa sua lea lqa fq1a fq2a fq3a fq4a fqa H locs ls hm_18 g_i g_rea g_laa g_sua g_lea g_lqa hif hl8 hn8 hwr hrs hqk hon hbf hP hD hS hl
      exact ms_0 hm_18
    | succ k_18 ih_18 =>
      intro i rea laa sua lea lqa fq1a fq2a fq3a fq4a fqa H locs ls hm_18 g_i g_rea g_laa g_sua g_lea g_lqa hif hl8 hn8 hwr hrs hqk hon hbf hP hD hS hl
      refine lv_iload hx hb dX6_tryUndone_18 (lv_at hl 0 rfl) ?_
      refine lv_iload hx hb dX6_tryUndone_20 (lv_at hl 5 rfl) ?_
      refine lv_icmp_ge (tgt := 136) hx hb dX6_tryUndone_22 (by decide) (fun c_3 => ?_) (fun c_3 => ?_)
      · have tc_3 : n.toInt ≤ i.toInt := v_le c_3
        exact kl_v hQQ hx hb hr hlocks hS dX6_tryUndone_136 (fun PZ9 kZ9 => kZ9 lqa fqa rea laa sua lea fq1a fq2a fq3a fq4a (⟨hP, hD⟩) (g_lqa) (hqk) (hon) (BFS_A hbf (fun j h2 s sp c9 => by have c8 := c9.2.1; show h2 < h.toInt + 1 ↔ (h2 < h.toInt ∨ (h2 = h.toInt ∧ (j : Int) ≤ i.toInt)); omega)))
      · have tc_3 : i.toInt < n.toInt := v_nle c_3
        have ci9 := v_clamp (x := i) (by omega)
        refine lv_aload_n hx hb dX6_tryUndone_25 rfl (lv_at hl 1 rfl) ?_
        refine va_get (D := (dC, dI)) (ci := 6) (v := .ref oC) (C := RX6) (T := TX6) (N := 12) hx hb hts in_X6 hown hK hP 0 rfl rfl 0 (Nat.le_of_ble_eq_true rfl) (hts (.fieldLink RX6 39 "TextMender$Parting" "codes" "LTextMender$Codes;") (List.mem_of_getElem? (i := 3) rfl)) (fun _ h9 => h9) rfl dX6_tryUndone_26 ?_
        refine lv_aload_n hx hb dX6_tryUndone_29 rfl (lv_at hl 1 rfl) ?_
        refine va_get (D := (dC, dI)) (ci := 6) (v := .ref oH) (C := RX6) (T := TX6) (N := 12) hx hb hts in_X6 hown hK hP 0 rfl rfl 1 (Nat.le_of_ble_eq_true rfl) (hts (.fieldLink RX6 43 "TextMender$Parting" "harms" "LTextMender$Harms;") (List.mem_of_getElem? (i := 4) rfl)) (fun _ h9 => h9) rfl dX6_tryUndone_30 ?_
        refine lv_iload_n hx hb dX6_tryUndone_33 rfl (lv_at hl 2 rfl) ?_
        refine kV_i (rest := [.ref oC]) (q0 := 0) (ci := 4) hcf (f_X4_readIn l dC dI cI cS H.size oH oP h1 h2 lH fH2 h (g_lH) (g_h) (by omega)) kc_X4_readIn gX6_tryUndone_X4_readIn rfl rfl rfl ⟨Nat.le_of_ble_eq_true rfl, Nat.le_of_ble_eq_true rfl⟩ kX_t hK hP hD hS hA (posT mk_49 0) (posF mk_49 0) (kC_of mk_49 rfl rfl) (by decide +kernel) rfl rfl rfl hl rfl (Nat.le_of_ble_eq_true rfl) dX6_tryUndone_34 ⟨Nat.le_of_ble_eq_true rfl, Nat.le_of_ble_eq_true rfl⟩ (fun r_4 H locs hB hJ hSn => ?_)
        refine hB _ (fun hPD9 hf4_0 => ?_)
        clear hB
        obtain ⟨hPn, hDn⟩ := kJi (m := mk_49) hJ rfl hPD9.1 hPD9.2 (wn := [(oQ, .inr (6, [.ref oC, .ref oH, .ref oK, .ref oE, .ref nq, .ref np, .ref nv, .ref q1, .ref q2, .ref q3, .ref q4, .int pr])), (q1, .inl (cI, 61, .inl fq1a)), (q2, .inl (cI, 61, .inl fq2a)), (q3, .inl (cI, 61, .inl fq3a)), (q4, .inl (cI, 61, .inl fq4a)), (nq, .inr (5, [.ref aq, .int lqa])), (aq, .inl (cI, 480, .inl fqa)), (oE, .inr (8, [.ref oC, .ref oK, .int rea, .int laa, .int sua, .int lea])), (oH, .inr (4, [.ref oP, .ref h1, .ref h2, .int lH])), (h1, .inl (cI, 6, .inl fH1)), (h2, .inl (cI, 6, .inl fH2)), (oC, .inr (2, [.ref o4, .ref o5])), (o4, .inr (10, [.ref a41, .ref a42, .ref a43, .int l4])), (a41, .inl (cI, 256, .inl f41)), (a42, .inl (cI, 512, .inl f42)), (a43, .inl (cI, 512, .inl f43)), (o5, .inr (10, [.ref a51, .ref a52, .ref a53, .int l5])), (a51, .inl (cI, 256, .inl f51)), (a52, .inl (cI, 512, .inl f52)), (a53, .inl (cI, 512, .inl f53)), (oK, .inr (3, [.ref k1, .ref k2, .int lK])), (k1, .inl (cI, 1024, .inl fK1)), (k2, .inl (cI, 1024, .inl fK2)), (nx, .inr (5, [.ref ax, .int lx])), (ax, .inl (cI, 300, .inl fx))]) rfl
        clear hP hD hS hJ hPD9
        have hP := hPn
        have hD := hDn
        have hS := hSn
        clear hPn hDn hSn
        refine lv_aload_n hx hb dX6_tryUndone_37 rfl (lv_at hl 4 rfl) ?_
        refine lv_iload hx hb dX6_tryUndone_38 (lv_at hl 0 rfl) ?_
        refine kV_i (rest := [.int r_4, .ref oC]) (q0 := 0) (ci := 5) hcf (m_X5_get l dC dI cI cS H.size nx ax 300 lx fx i (by omega) (by omega)) kc_X5_get gX6_tryUndone_X5_get rfl rfl rfl ⟨Nat.le_of_ble_eq_true rfl, Nat.le_of_ble_eq_true rfl⟩ kX_t hK hP hD hS hA (posT mk_50 0) (posF mk_50 0) (kC_of mk_50 rfl rfl) (by decide +kernel) rfl rfl rfl hl rfl (Nat.le_of_ble_eq_true rfl) dX6_tryUndone_40 ⟨Nat.le_of_ble_eq_true rfl, Nat.le_of_ble_eq_true rfl⟩ (fun r_5 H locs hB hJ hSn => ?_)
        refine hB _ (fun hPD9 hf5_0 => ?_)
        clear hB
        obtain ⟨hPn, hDn⟩ := kJi (m := mk_50) hJ rfl hPD9.1 hPD9.2 (wn := [(oQ, .inr (6, [.ref oC, .ref oH, .ref oK, .ref oE, .ref nq, .ref np, .ref nv, .ref q1, .ref q2, .ref q3, .ref q4, .int pr])), (q1, .inl (cI, 61, .inl fq1a)), (q2, .inl (cI, 61, .inl fq2a)), (q3, .inl (cI, 61, .inl fq3a)), (q4, .inl (cI, 61, .inl fq4a)), (nq, .inr (5, [.ref aq, .int lqa])), (aq, .inl (cI, 480, .inl fqa)), (oE, .inr (8, [.ref oC, .ref oK, .int rea, .int laa, .int sua, .int lea])), (oH, .inr (4, [.ref oP, .ref h1, .ref h2, .int lH])), (h1, .inl (cI, 6, .inl fH1)), (h2, .inl (cI, 6, .inl fH2)), (oC, .inr (2, [.ref o4, .ref o5])), (o4, .inr (10, [.ref a41, .ref a42, .ref a43, .int l4])), (a41, .inl (cI, 256, .inl f41)), (a42, .inl (cI, 512, .inl f42)), (a43, .inl (cI, 512, .inl f43)), (o5, .inr (10, [.ref a51, .ref a52, .ref a53, .int l5])), (a51, .inl (cI, 256, .inl f51)), (a52, .inl (cI, 512, .inl f52)), (a53, .inl (cI, 512, .inl f53)), (oK, .inr (3, [.ref k1, .ref k2, .int lK])), (k1, .inl (cI, 1024, .inl fK1)), (k2, .inl (cI, 1024, .inl fK2)), (nx, .inr (5, [.ref ax, .int lx])), (ax, .inl (cI, 300, .inl fx))]) rfl
        clear hP hD hS hJ hPD9
        have hP := hPn
        have hD := hDn
        have hS := hSn
        clear hPn hDn hSn
        have hg5 : r_5 = fx i.toNatClampNeg := F_get_f hf5_0 (by omega) (by omega)
        have hgr5 : 0 ≤ r_5.toInt ∧ r_5.toInt ≤ 65535 := prg_at hlt hg5 (by omega) (by omega)
        refine lv_aload_n hx hb dX6_tryUndone_43 rfl (lv_at hl 1 rfl) ?_
        refine va_get (D := (dC, dI)) (ci := 6) (v := .ref nq) (C := RX6) (T := TX6) (N := 12) hx hb hts in_X6 hown hK hP 0 rfl rfl 4 (Nat.le_of_ble_eq_true rfl) (hts (.fieldLink RX6 14 "TextMender$Parting" "bytes" "LTextMender$Numbers;") (List.mem_of_getElem? (i := 2) rfl)) (fun _ h9 => h9) rfl dX6_tryUndone_44 ?_
        refine kV_i (rest := []) (q0 := 0) (ci := 2) hcf (f_X2_encode l dC dI cI cS H.size oC nq o4 o5 a41 a42 a43 a51 a52 a53 aq 480 l4 f42 f43 l5 f52 f53 lqa fqa r_4 r_5 (by omega) (by omega) (by omega) (by omega) (hT4) (ho4) (hT5) (ho5)) kc_X2_encode gX6_tryUndone_X2_encode rfl rfl rfl ⟨Nat.le_of_ble_eq_true rfl, Nat.le_of_ble_eq_true rfl⟩ kX_t hK hP hD hS hA ([2, 3, 4, 5, 6, 7, 8, 0, 1].filterMap (fun j => (posT mk_51 0)[j]?)) (posF mk_51 0) (kCp (ws := [(nq, .inr (5, [.ref aq, .int lqa])), (aq, .inl (cI, 480, .inl fqa)), (oC, .inr (2, [.ref o4, .ref o5])), (o4, .inr (10, [.ref a41, .ref a42, .ref a43, .int l4])), (a42, .inl (cI, 512, .inl f42)), (a43, .inl (cI, 512, .inl f43)), (o5, .inr (10, [.ref a51, .ref a52, .ref a53, .int l5])), (a52, .inl (cI, 512, .inl f52)), (a53, .inl (cI, 512, .inl f53))]) (kC_of mk_51 rfl rfl) rfl) (by decide +kernel) rfl rfl rfl hl rfl (Nat.le_of_ble_eq_true rfl) dX6_tryUndone_47 ⟨Nat.le_of_ble_eq_true rfl, Nat.le_of_ble_eq_true rfl⟩ (fun r_6 H locs hB hJ hSn => ?_)
        refine hB _ (fun lu_6 fu_6 hPD9 hf6_0 hf6_1 hf6_2 => ?_)
        clear hB
        obtain ⟨hPn, hDn⟩ := kJm (m := mk_51) hJ rfl hPD9.1 hPD9.2 [7, 8, 0, 1, 2, 3, 4, 5, 6] (by decide +kernel) (ws := [(nq, .inr (5, [.ref aq, .int lu_6])), (aq, .inl (cI, 480, .inl fu_6)), (oC, .inr (2, [.ref o4, .ref o5])), (o4, .inr (10, [.ref a41, .ref a42, .ref a43, .int l4])), (a42, .inl (cI, 512, .inl f42)), (a43, .inl (cI, 512, .inl f43)), (o5, .inr (10, [.ref a51, .ref a52, .ref a53, .int l5])), (a52, .inl (cI, 512, .inl f52)), (a53, .inl (cI, 512, .inl f53))]) rfl (wn := [(oQ, .inr (6, [.ref oC, .ref oH, .ref oK, .ref oE, .ref nq, .ref np, .ref nv, .ref q1, .ref q2, .ref q3, .ref q4, .int pr])), (q1, .inl (cI, 61, .inl fq1a)), (q2, .inl (cI, 61, .inl fq2a)), (q3, .inl (cI, 61, .inl fq3a)), (q4, .inl (cI, 61, .inl fq4a)), (nq, .inr (5, [.ref aq, .int lu_6])), (aq, .inl (cI, 480, .inl fu_6)), (oE, .inr (8, [.ref oC, .ref oK, .int rea, .int laa, .int sua, .int lea])), (oH, .inr (4, [.ref oP, .ref h1, .ref h2, .int lH])), (h1, .inl (cI, 6, .inl fH1)), (h2, .inl (cI, 6, .inl fH2)), (oC, .inr (2, [.ref o4, .ref o5])), (o4, .inr (10, [.ref a41, .ref a42, .ref a43, .int l4])), (a41, .inl (cI, 256, .inl f41)), (a42, .inl (cI, 512, .inl f42)), (a43, .inl (cI, 512, .inl f43)), (o5, .inr (10, [.ref a51, .ref a52, .ref a53, .int l5])), (a51, .inl (cI, 256, .inl f51)), (a52, .inl (cI, 512, .inl f52)), (a53, .inl (cI, 512, .inl f53)), (oK, .inr (3, [.ref k1, .ref k2, .int lK])), (k1, .inl (cI, 1024, .inl fK1)), (k2, .inl (cI, 1024, .inl fK2)), (nx, .inr (5, [.ref ax, .int lx])), (ax, .inl (cI, 300, .inl fx))]) rfl
        clear hP hD hS hJ hPD9
        have hP := hPn
        have hD := hDn
        have hS := hSn
        clear hPn hDn hSn
        have hln6 := en_len hf6_2
        refine lv_if_ne (tgt := 54) hx hb dX6_tryUndone_50 (by decide) (fun c_7 => ?_) (fun c_7 => ?_)
        · have tc_7 : ¬ r_6.toInt = 0 := v_ne c_7
          obtain ⟨i9, hi9⟩ : ∃ i9 : Int32, i9 = i + 1 := ⟨_, rfl⟩
          have ti9 : i9.toInt = i.toInt + 1 := v_add hi9 (by show -2147483648 ≤ i.toInt + 1; omega) (by show i.toInt + 1 < 2147483648; omega)
          obtain ⟨hw9, hwl9, hwg9⟩ := wr_sh (i' := i9) (b := fr.toNatClampNeg) hwr (by show enc (fH2 h.toNatClampNeg) (fx (fr.toNatClampNeg + (i.toInt - (fr.toNatClampNeg : Int)).toNat)) (Bc (fH2 h.toNatClampNeg) f42 f43 f52 f53 (fx (fr.toNatClampNeg + (i.toInt - (fr.toNatClampNeg : Int)).toNat))) = _; rw [show fr.toNatClampNeg + (i.toInt - (fr.toNatClampNeg : Int)).toNat = i.toNatClampNeg by omega, ← hg5, ← hf4_0]) hf6_2 (by omega) (by omega) ti9
          have hby9 := WR_b (Bf := Bc (fH2 h.toNatClampNeg) f42 f43 f52 f53) hw9 (fun j hj => hlt (fr.toNatClampNeg + j) (by omega)) (hBr _)
          have hru9 : RS (tcC fK1 fK2) rea laa sua lea (dl (fH1 h.toNatClampNeg) f41 f51 fu_6 lu_6.toInt) (dx (fH1 h.toNatClampNeg) f41 f51 fu_6 lu_6.toInt) := RS_up hrs (fun p9 hp9 => dl_up hwg9 hwl9 hp9)
          refine lv_aload_n hx hb dX6_tryUndone_54 rfl (lv_at hl 1 rfl) ?_
          refine va_get (D := (dC, dI)) (ci := 6) (v := .ref oE) (C := RX6) (T := TX6) (N := 12) hx hb hts in_X6 hown hK hP 0 rfl rfl 3 (Nat.le_of_ble_eq_true rfl) (hts (.fieldLink RX6 56 "TextMender$Parting" "reading" "LTextMender$Reading;") (List.mem_of_getElem? (i := 1) rfl)) (fun _ h9 => h9) rfl dX6_tryUndone_55 ?_
          refine lv_aload_n hx hb dX6_tryUndone_58 rfl (lv_at hl 1 rfl) ?_
          refine va_get (D := (dC, dI)) (ci := 6) (v := .ref oH) (C := RX6) (T := TX6) (N := 12) hx hb hts in_X6 hown hK hP 0 rfl rfl 1 (Nat.le_of_ble_eq_true rfl) (hts (.fieldLink RX6 43 "TextMender$Parting" "harms" "LTextMender$Harms;") (List.mem_of_getElem? (i := 4) rfl)) (fun _ h9 => h9) rfl dX6_tryUndone_59 ?_
          refine lv_iload_n hx hb dX6_tryUndone_62 rfl (lv_at hl 2 rfl) ?_
          refine kV_i (rest := [.ref oE]) (q0 := 0) (ci := 4) hcf (f_X4_writtenIn l dC dI cI cS H.size oH oP h1 h2 lH fH1 h (g_lH) (g_h) (by omega)) kc_X4_writtenIn gX6_tryUndone_X4_writtenIn rfl rfl rfl ⟨Nat.le_of_ble_eq_true rfl, Nat.le_of_ble_eq_true rfl⟩ kX_t hK hP hD hS hA (posT mk_52 0) (posF mk_52 0) (kC_of mk_52 rfl rfl) (by decide +kernel) rfl rfl rfl hl rfl (Nat.le_of_ble_eq_true rfl) dX6_tryUndone_63 ⟨Nat.le_of_ble_eq_true rfl, Nat.le_of_ble_eq_true rfl⟩ (fun r_8 H locs hB hJ hSn => ?_)
          refine hB _ (fun hPD9 hf8_0 => ?_)
          clear hB
          obtain ⟨hPn, hDn⟩ := kJi (m := mk_52) hJ rfl hPD9.1 hPD9.2 (wn := [(oQ, .inr (6, [.ref oC, .ref oH, .ref oK, .ref oE, .ref nq, .ref np, .ref nv, .ref q1, .ref q2, .ref q3, .ref q4, .int pr])), (q1, .inl (cI, 61, .inl fq1a)), (q2, .inl (cI, 61, .inl fq2a)), (q3, .inl (cI, 61, .inl fq3a)), (q4, .inl (cI, 61, .inl fq4a)), (nq, .inr (5, [.ref aq, .int lu_6])), (aq, .inl (cI, 480, .inl fu_6)), (oE, .inr (8, [.ref oC, .ref oK, .int rea, .int laa, .int sua, .int lea])), (oH, .inr (4, [.ref oP, .ref h1, .ref h2, .int lH])), (h1, .inl (cI, 6, .inl fH1)), (h2, .inl (cI, 6, .inl fH2)), (oC, .inr (2, [.ref o4, .ref o5])), (o4, .inr (10, [.ref a41, .ref a42, .ref a43, .int l4])), (a41, .inl (cI, 256, .inl f41)), (a42, .inl (cI, 512, .inl f42)), (a43, .inl (cI, 512, .inl f43)), (o5, .inr (10, [.ref a51, .ref a52, .ref a53, .int l5])), (a51, .inl (cI, 256, .inl f51)), (a52, .inl (cI, 512, .inl f52)), (a53, .inl (cI, 512, .inl f53)), (oK, .inr (3, [.ref k1, .ref k2, .int lK])), (k1, .inl (cI, 1024, .inl fK1)), (k2, .inl (cI, 1024, .inl fK2)), (nx, .inr (5, [.ref ax, .int lx])), (ax, .inl (cI, 300, .inl fx))]) rfl
          clear hP hD hS hJ hPD9
          have hP := hPn
          have hD := hDn
          have hS := hSn
          clear hPn hDn hSn
          rw [← hf8_0] at hru9
          refine lv_aload_n hx hb dX6_tryUndone_66 rfl (lv_at hl 1 rfl) ?_
          refine va_get (D := (dC, dI)) (ci := 6) (v := .ref nq) (C := RX6) (T := TX6) (N := 12) hx hb hts in_X6 hown hK hP 0 rfl rfl 4 (Nat.le_of_ble_eq_true rfl) (hts (.fieldLink RX6 14 "TextMender$Parting" "bytes" "LTextMender$Numbers;") (List.mem_of_getElem? (i := 2) rfl)) (fun _ h9 => h9) rfl dX6_tryUndone_67 ?_
          refine lv_aload_n hx hb dX6_tryUndone_70 rfl (lv_at hl 1 rfl) ?_
          refine va_get (D := (dC, dI)) (ci := 6) (v := .ref nq) (C := RX6) (T := TX6) (N := 12) hx hb hts in_X6 hown hK hP 0 rfl rfl 4 (Nat.le_of_ble_eq_true rfl) (hts (.fieldLink RX6 14 "TextMender$Parting" "bytes" "LTextMender$Numbers;") (List.mem_of_getElem? (i := 2) rfl)) (fun _ h9 => h9) rfl dX6_tryUndone_71 ?_
          refine kV_i (rest := [.ref nq, .int r_8, .ref oE]) (q0 := 0) (ci := 5) hcf (m_X5_length l dC dI cI cS H.size nq aq lu_6 ) kc_X5_length gX6_tryUndone_X5_length rfl rfl rfl ⟨Nat.le_of_ble_eq_true rfl, Nat.le_of_ble_eq_true rfl⟩ kX_t hK hP hD hS hA (posT mk_48 0) (posF mk_48 0) (kC_of mk_48 rfl rfl) (by decide +kernel) rfl rfl rfl hl rfl (Nat.le_of_ble_eq_true rfl) dX6_tryUndone_74 ⟨Nat.le_of_ble_eq_true rfl, Nat.le_of_ble_eq_true rfl⟩ (fun r_9 H locs hB hJ hSn => ?_)
          refine hB _ (fun hPD9 hf9_0 => ?_)
          clear hB
          obtain ⟨hPn, hDn⟩ := kJi (m := mk_48) hJ rfl hPD9.1 hPD9.2 (wn := [(oQ, .inr (6, [.ref oC, .ref oH, .ref oK, .ref oE, .ref nq, .ref np, .ref nv, .ref q1, .ref q2, .ref q3, .ref q4, .int pr])), (q1, .inl (cI, 61, .inl fq1a)), (q2, .inl (cI, 61, .inl fq2a)), (q3, .inl (cI, 61, .inl fq3a)), (q4, .inl (cI, 61, .inl fq4a)), (nq, .inr (5, [.ref aq, .int lu_6])), (aq, .inl (cI, 480, .inl fu_6)), (oE, .inr (8, [.ref oC, .ref oK, .int rea, .int laa, .int sua, .int lea])), (oH, .inr (4, [.ref oP, .ref h1, .ref h2, .int lH])), (h1, .inl (cI, 6, .inl fH1)), (h2, .inl (cI, 6, .inl fH2)), (oC, .inr (2, [.ref o4, .ref o5])), (o4, .inr (10, [.ref a41, .ref a42, .ref a43, .int l4])), (a41, .inl (cI, 256, .inl f41)), (a42, .inl (cI, 512, .inl f42)), (a43, .inl (cI, 512, .inl f43)), (o5, .inr (10, [.ref a51, .ref a52, .ref a53, .int l5])), (a51, .inl (cI, 256, .inl f51)), (a52, .inl (cI, 512, .inl f52)), (a53, .inl (cI, 512, .inl f53)), (oK, .inr (3, [.ref k1, .ref k2, .int lK])), (k1, .inl (cI, 1024, .inl fK1)), (k2, .inl (cI, 1024, .inl fK2)), (nx, .inr (5, [.ref ax, .int lx])), (ax, .inl (cI, 300, .inl fx))]) rfl
          clear hP hD hS hJ hPD9
          have hP := hPn
          have hD := hDn
          have hS := hSn
          clear hPn hDn hSn
          rw [hf9_0]
          refine kV_v (rest := []) (q0 := 0) (ci := 8) hcf (f_X8_goOn l dC dI cI cS H.size oE nq oC oK o4 o5 a41 a42 a43 a51 a52 a53 k1 k2 aq 480 rea laa sua lea l4 f41 l5 f51 lK fK1 fK2 lu_6 fu_6 r_8 lu_6 (g_laa) (g_lK) (hf6_0) (by omega) (by omega) (hby9) (hL4) (hL5) (hT) (ho) (hV) (by omega) (hru9)) kc_X8_goOn gX6_tryUndone_X8_goOn rfl rfl rfl ⟨Nat.le_of_ble_eq_true rfl, Nat.le_of_ble_eq_true rfl⟩ (kX_1 hN52) hK hP hD hS hA ([2, 3, 4, 5, 6, 7, 8, 9, 10, 0, 1].filterMap (fun j => (posT mk_53 0)[j]?)) (posF mk_53 0) (kCp (ws := [(nq, .inr (5, [.ref aq, .int lu_6])), (aq, .inl (cI, 480, .inl fu_6)), (oE, .inr (8, [.ref oC, .ref oK, .int rea, .int laa, .int sua, .int lea])), (oC, .inr (2, [.ref o4, .ref o5])), (o4, .inr (10, [.ref a41, .ref a42, .ref a43, .int l4])), (a41, .inl (cI, 256, .inl f41)), (o5, .inr (10, [.ref a51, .ref a52, .ref a53, .int l5])), (a51, .inl (cI, 256, .inl f51)), (oK, .inr (3, [.ref k1, .ref k2, .int lK])), (k1, .inl (cI, 1024, .inl fK1)), (k2, .inl (cI, 1024, .inl fK2))]) (kC_of mk_53 rfl rfl) rfl) (by decide +kernel) rfl rfl rfl hl rfl (Nat.le_of_ble_eq_true rfl) dX6_tryUndone_77 ⟨Nat.le_of_ble_eq_true rfl, Nat.le_of_ble_eq_true rfl⟩ (fun H locs hB hJ hSn => ?_)
          refine hB _ (fun reE_10 laE_10 suE_10 leE_10 hPD9 hf10_0 hf10_1 hf10_2 hf10_3 => ?_)
          clear hB
          obtain ⟨hPn, hDn⟩ := kJm (m := mk_53) hJ rfl hPD9.1 hPD9.2 [9, 10, 0, 1, 2, 3, 4, 5, 6, 7, 8] (by decide +kernel) (ws := [(nq, .inr (5, [.ref aq, .int lu_6])), (aq, .inl (cI, 480, .inl fu_6)), (oE, .inr (8, [.ref oC, .ref oK, .int reE_10, .int laE_10, .int suE_10, .int leE_10])), (oC, .inr (2, [.ref o4, .ref o5])), (o4, .inr (10, [.ref a41, .ref a42, .ref a43, .int l4])), (a41, .inl (cI, 256, .inl f41)), (o5, .inr (10, [.ref a51, .ref a52, .ref a53, .int l5])), (a51, .inl (cI, 256, .inl f51)), (oK, .inr (3, [.ref k1, .ref k2, .int lK])), (k1, .inl (cI, 1024, .inl fK1)), (k2, .inl (cI, 1024, .inl fK2))]) rfl (wn := [(oQ, .inr (6, [.ref oC, .ref oH, .ref oK, .ref oE, .ref nq, .ref np, .ref nv, .ref q1, .ref q2, .ref q3, .ref q4, .int pr])), (q1, .inl (cI, 61, .inl fq1a)), (q2, .inl (cI, 61, .inl fq2a)), (q3, .inl (cI, 61, .inl fq3a)), (q4, .inl (cI, 61, .inl fq4a)), (nq, .inr (5, [.ref aq, .int lu_6])), (aq, .inl (cI, 480, .inl fu_6)), (oE, .inr (8, [.ref oC, .ref oK, .int reE_10, .int laE_10, .int suE_10, .int leE_10])), (oH, .inr (4, [.ref oP, .ref h1, .ref h2, .int lH])), (h1, .inl (cI, 6, .inl fH1)), (h2, .inl (cI, 6, .inl fH2)), (oC, .inr (2, [.ref o4, .ref o5])), (o4, .inr (10, [.ref a41, .ref a42, .ref a43, .int l4])), (a41, .inl (cI, 256, .inl f41)), (a42, .inl (cI, 512, .inl f42)), (a43, .inl (cI, 512, .inl f43)), (o5, .inr (10, [.ref a51, .ref a52, .ref a53, .int l5])), (a51, .inl (cI, 256, .inl f51)), (a52, .inl (cI, 512, .inl f52)), (a53, .inl (cI, 512, .inl f53)), (oK, .inr (3, [.ref k1, .ref k2, .int lK])), (k1, .inl (cI, 1024, .inl fK1)), (k2, .inl (cI, 1024, .inl fK2)), (nx, .inr (5, [.ref ax, .int lx])), (ax, .inl (cI, 300, .inl fx))]) rfl
          clear hP hD hS hJ hPD9
          have hP := hPn
          have hD := hDn
          have hS := hSn
          clear hPn hDn hSn
          have hrg9 := hf10_2
          have hrh9 := hf10_3
          rw [hf8_0] at hrg9 hrh9
          refine lv_aload_n hx hb dX6_tryUndone_80 rfl (lv_at hl 1 rfl) ?_
          refine va_get (D := (dC, dI)) (ci := 6) (v := .ref oE) (C := RX6) (T := TX6) (N := 12) hx hb hts in_X6 hown hK hP 0 rfl rfl 3 (Nat.le_of_ble_eq_true rfl) (hts (.fieldLink RX6 56 "TextMender$Parting" "reading" "LTextMender$Reading;") (List.mem_of_getElem? (i := 1) rfl)) (fun _ h9 => h9) rfl dX6_tryUndone_81 ?_
          refine kV_i (rest := []) (q0 := 0) (ci := 8) hcf (m_X8_letters l dC dI cI cS H.size oE oC oK reE_10 laE_10 suE_10 leE_10 ) kc_X8_letters gX6_tryUndone_X8_letters rfl rfl rfl ⟨Nat.le_of_ble_eq_true rfl, Nat.le_of_ble_eq_true rfl⟩ kX_t hK hP hD hS hA (posT mk_47 0) (posF mk_47 0) (kC_of mk_47 rfl rfl) (by decide +kernel) rfl rfl rfl hl rfl (Nat.le_of_ble_eq_true rfl) dX6_tryUndone_84 ⟨Nat.le_of_ble_eq_true rfl, Nat.le_of_ble_eq_true rfl⟩ (fun r_11 H locs hB hJ hSn => ?_)
          refine hB _ (fun hPD9 hf11_0 => ?_)
          clear hB
          obtain ⟨hPn, hDn⟩ := kJi (m := mk_47) hJ rfl hPD9.1 hPD9.2 (wn := [(oQ, .inr (6, [.ref oC, .ref oH, .ref oK, .ref oE, .ref nq, .ref np, .ref nv, .ref q1, .ref q2, .ref q3, .ref q4, .int pr])), (q1, .inl (cI, 61, .inl fq1a)), (q2, .inl (cI, 61, .inl fq2a)), (q3, .inl (cI, 61, .inl fq3a)), (q4, .inl (cI, 61, .inl fq4a)), (nq, .inr (5, [.ref aq, .int lu_6])), (aq, .inl (cI, 480, .inl fu_6)), (oE, .inr (8, [.ref oC, .ref oK, .int reE_10, .int laE_10, .int suE_10, .int leE_10])), (oH, .inr (4, [.ref oP, .ref h1, .ref h2, .int lH])), (h1, .inl (cI, 6, .inl fH1)), (h2, .inl (cI, 6, .inl fH2)), (oC, .inr (2, [.ref o4, .ref o5])), (o4, .inr (10, [.ref a41, .ref a42, .ref a43, .int l4])), (a41, .inl (cI, 256, .inl f41)), (a42, .inl (cI, 512, .inl f42)), (a43, .inl (cI, 512, .inl f43)), (o5, .inr (10, [.ref a51, .ref a52, .ref a53, .int l5])), (a51, .inl (cI, 256, .inl f51)), (a52, .inl (cI, 512, .inl f52)), (a53, .inl (cI, 512, .inl f53)), (oK, .inr (3, [.ref k1, .ref k2, .int lK])), (k1, .inl (cI, 1024, .inl fK1)), (k2, .inl (cI, 1024, .inl fK2)), (nx, .inr (5, [.ref ax, .int lx])), (ax, .inl (cI, 300, .inl fx))]) rfl
          clear hP hD hS hJ hPD9
          have hP := hPn
          have hD := hDn
          have hS := hSn
          clear hPn hDn hSn
          rw [hf11_0]
          refine lv_sipush (v := 300) hx hb dX6_tryUndone_87 (by decide) ?_
          refine lv_icmp_le (tgt := 94) hx hb dX6_tryUndone_90 (by decide) (fun c_12 => ?_) (fun c_12 => ?_)
          · have tc_12 : leE_10.toInt ≤ 300 := v_le c_12
            refine lv_aload_n hx hb dX6_tryUndone_94 rfl (lv_at hl 1 rfl) ?_
            refine va_get (D := (dC, dI)) (ci := 6) (v := .ref oE) (C := RX6) (T := TX6) (N := 12) hx hb hts in_X6 hown hK hP 0 rfl rfl 3 (Nat.le_of_ble_eq_true rfl) (hts (.fieldLink RX6 56 "TextMender$Parting" "reading" "LTextMender$Reading;") (List.mem_of_getElem? (i := 1) rfl)) (fun _ h9 => h9) rfl dX6_tryUndone_95 ?_
            refine kV_i (rest := []) (q0 := 0) (ci := 8) hcf (m_X8_reached l dC dI cI cS H.size oE oC oK reE_10 laE_10 suE_10 leE_10 ) kc_X8_reached gX6_tryUndone_X8_reached rfl rfl rfl ⟨Nat.le_of_ble_eq_true rfl, Nat.le_of_ble_eq_true rfl⟩ kX_t hK hP hD hS hA (posT mk_47 0) (posF mk_47 0) (kC_of mk_47 rfl rfl) (by decide +kernel) rfl rfl rfl hl rfl (Nat.le_of_ble_eq_true rfl) dX6_tryUndone_98 ⟨Nat.le_of_ble_eq_true rfl, Nat.le_of_ble_eq_true rfl⟩ (fun r_13 H locs hB hJ hSn => ?_)
            refine hB _ (fun hPD9 hf13_0 => ?_)
            clear hB
            obtain ⟨hPn, hDn⟩ := kJi (m := mk_47) hJ rfl hPD9.1 hPD9.2 (wn := [(oQ, .inr (6, [.ref oC, .ref oH, .ref oK, .ref oE, .ref nq, .ref np, .ref nv, .ref q1, .ref q2, .ref q3, .ref q4, .int pr])), (q1, .inl (cI, 61, .inl fq1a)), (q2, .inl (cI, 61, .inl fq2a)), (q3, .inl (cI, 61, .inl fq3a)), (q4, .inl (cI, 61, .inl fq4a)), (nq, .inr (5, [.ref aq, .int lu_6])), (aq, .inl (cI, 480, .inl fu_6)), (oE, .inr (8, [.ref oC, .ref oK, .int reE_10, .int laE_10, .int suE_10, .int leE_10])), (oH, .inr (4, [.ref oP, .ref h1, .ref h2, .int lH])), (h1, .inl (cI, 6, .inl fH1)), (h2, .inl (cI, 6, .inl fH2)), (oC, .inr (2, [.ref o4, .ref o5])), (o4, .inr (10, [.ref a41, .ref a42, .ref a43, .int l4])), (a41, .inl (cI, 256, .inl f41)), (a42, .inl (cI, 512, .inl f42)), (a43, .inl (cI, 512, .inl f43)), (o5, .inr (10, [.ref a51, .ref a52, .ref a53, .int l5])), (a51, .inl (cI, 256, .inl f51)), (a52, .inl (cI, 512, .inl f52)), (a53, .inl (cI, 512, .inl f53)), (oK, .inr (3, [.ref k1, .ref k2, .int lK])), (k1, .inl (cI, 1024, .inl fK1)), (k2, .inl (cI, 1024, .inl fK2)), (nx, .inr (5, [.ref ax, .int lx])), (ax, .inl (cI, 300, .inl fx))]) rfl
            clear hP hD hS hJ hPD9
            have hP := hPn
            have hD := hDn
            have hS := hSn
            clear hPn hDn hSn
            rw [hf13_0]
            refine lv_aload_n hx hb dX6_tryUndone_101 rfl (lv_at hl 1 rfl) ?_
            refine va_get (D := (dC, dI)) (ci := 6) (v := .ref nq) (C := RX6) (T := TX6) (N := 12) hx hb hts in_X6 hown hK hP 0 rfl rfl 4 (Nat.le_of_ble_eq_true rfl) (hts (.fieldLink RX6 14 "TextMender$Parting" "bytes" "LTextMender$Numbers;") (List.mem_of_getElem? (i := 2) rfl)) (fun _ h9 => h9) rfl dX6_tryUndone_102 ?_
            refine kV_i (rest := [.int reE_10]) (q0 := 0) (ci := 5) hcf (m_X5_length l dC dI cI cS H.size nq aq lu_6 ) kc_X5_length gX6_tryUndone_X5_length rfl rfl rfl ⟨Nat.le_of_ble_eq_true rfl, Nat.le_of_ble_eq_true rfl⟩ kX_t hK hP hD hS hA (posT mk_48 0) (posF mk_48 0) (kC_of mk_48 rfl rfl) (by decide +kernel) rfl rfl rfl hl rfl (Nat.le_of_ble_eq_true rfl) dX6_tryUndone_105 ⟨Nat.le_of_ble_eq_true rfl, Nat.le_of_ble_eq_true rfl⟩ (fun r_14 H locs hB hJ hSn => ?_)
            refine hB _ (fun hPD9 hf14_0 => ?_)
            clear hB
            obtain ⟨hPn, hDn⟩ := kJi (m := mk_48) hJ rfl hPD9.1 hPD9.2 (wn := [(oQ, .inr (6, [.ref oC, .ref oH, .ref oK, .ref oE, .ref nq, .ref np, .ref nv, .ref q1, .ref q2, .ref q3, .ref q4, .int pr])), (q1, .inl (cI, 61, .inl fq1a)), (q2, .inl (cI, 61, .inl fq2a)), (q3, .inl (cI, 61, .inl fq3a)), (q4, .inl (cI, 61, .inl fq4a)), (nq, .inr (5, [.ref aq, .int lu_6])), (aq, .inl (cI, 480, .inl fu_6)), (oE, .inr (8, [.ref oC, .ref oK, .int reE_10, .int laE_10, .int suE_10, .int leE_10])), (oH, .inr (4, [.ref oP, .ref h1, .ref h2, .int lH])), (h1, .inl (cI, 6, .inl fH1)), (h2, .inl (cI, 6, .inl fH2)), (oC, .inr (2, [.ref o4, .ref o5])), (o4, .inr (10, [.ref a41, .ref a42, .ref a43, .int l4])), (a41, .inl (cI, 256, .inl f41)), (a42, .inl (cI, 512, .inl f42)), (a43, .inl (cI, 512, .inl f43)), (o5, .inr (10, [.ref a51, .ref a52, .ref a53, .int l5])), (a51, .inl (cI, 256, .inl f51)), (a52, .inl (cI, 512, .inl f52)), (a53, .inl (cI, 512, .inl f53)), (oK, .inr (3, [.ref k1, .ref k2, .int lK])), (k1, .inl (cI, 1024, .inl fK1)), (k2, .inl (cI, 1024, .inl fK2)), (nx, .inr (5, [.ref ax, .int lx])), (ax, .inl (cI, 300, .inl fx))]) rfl
            clear hP hD hS hJ hPD9
            have hP := hPn
            have hD := hDn
            have hS := hSn
            clear hPn hDn hSn
            rw [hf14_0]
            refine lv_icmp_ne (tgt := 130) hx hb dX6_tryUndone_108 (by decide) (fun c_15 => ?_) (fun c_15 => ?_)
            · have tc_15 : ¬ reE_10.toInt = lu_6.toInt := v_ne c_15
              have rw15_0 := v_rng reE_10
              obtain ⟨x_16, ex_16⟩ : ∃ y : Int32, y = i + 1 := ⟨_, rfl⟩
              have tx_16 : x_16.toInt = i.toInt + 1 := v_addR (l2 := 1) (h2 := 1) ex_16 g_i (by decide) (by decide) (by decide)
              refine lv_iinc (v := x_16) (lv' := [(5, .int x_16), (0, .ref oQ), (1, .int h), (2, .int fr), (3, .ref nx), (4, .int n)]) hx hb dX6_tryUndone_130 hl (k := 0) rfl (by rw [ex_16]; rfl) (by decide) rfl (fun ls hl => ?_)
              refine lv_goto (tgt := 18) hx hb dX6_tryUndone_133 (by decide) ?_
              exact ih_18 x_16 reE_10 laE_10 suE_10 leE_10 lu_6 fq1a fq2a fq3a fq4a fu_6 _ _ _ (ms_lt hm_18 (by show ((60 - x_16.toInt : Int)) < 60 - i.toInt; omega) (by show (0 : Int) < 60 - i.toInt; omega)) (by show 0 ≤ x_16.toInt ∧ x_16.toInt ≤ 60; omega) (by show 0 ≤ reE_10.toInt ∧ reE_10.toInt ≤ 2400; omega) (hf10_0) (by show 0 ≤ suE_10.toInt ∧ suE_10.toInt ≤ 480000; omega) (by show 0 ≤ leE_10.toInt ∧ leE_10.toInt ≤ 2400; omega) (by show 0 ≤ lu_6.toInt ∧ lu_6.toInt ≤ 480; omega) (by show fr.toInt ≤ x_16.toInt ∧ x_16.toInt ≤ n.toInt; omega) (by show lu_6.toInt ≤ 8 * (x_16.toInt - fr.toInt); omega) (by show suE_10.toInt ≤ 200 * leE_10.toInt ∧ leE_10.toInt ≤ reE_10.toInt ∧ reE_10.toInt ≤ lu_6.toInt ∧ leE_10.toInt ≤ 300; omega) (by rw [show x_16.toInt = i9.toInt by omega]; exact hw9) (hrg9) (hqk) (hon) (BFS_no hbf (fun j h2 q9 => by have q8 : h2 < h.toInt ∨ (h2 = h.toInt ∧ (j : Int) ≤ i.toInt) := q9; show h2 < h.toInt ∨ (h2 = h.toInt ∧ (j : Int) ≤ x_16.toInt); omega) (fun j h2 j1 j2 q9 => un_o2 (Q := fun k9 => ∀ c f', ¬ UC fH1 fH2 f41 f42 f43 f51 f52 f53 k9 (j - fr.toNatClampNeg) (fun k => fx (fr.toNatClampNeg + k)) c f') (i := i) (i' := x_16) (h := h) q9 (by omega) (by omega) (fun j3 => un_jm (by omega) (hm_stop hw9 hby9 hrg9 (hrh9.resolve_left (by omega)) (by omega))))) hP hD hS (lv_sub hl [0, 1, 2, 3, 4, 5] rfl)
            · have tc_15 : reE_10.toInt = lu_6.toInt := v_eq c_15
              have rw15_0 := v_rng reE_10
              obtain ⟨c9, f9, hH9, hC9⟩ := hm_yes (T := (tcC fK1 fK2)) hw9 (by omega) hrg9 (by omega) (by omega)
              refine lv_aload_n hx hb dX6_tryUndone_111 rfl (lv_at hl 1 rfl) ?_
              refine lv_iload_n hx hb dX6_tryUndone_112 rfl (lv_at hl 3 rfl) ?_
              refine lv_iload hx hb dX6_tryUndone_113 (lv_at hl 0 rfl) ?_
              refine lv_iconst (v := 1) hx hb dX6_tryUndone_115 (by decide) ?_
              refine lv_iadd hx hb dX6_tryUndone_116 ?_
              refine lv_topi (fun x_17 ex_17 => ?_)
              have tx_17 : x_17.toInt = i.toInt + 1 := v_addR (l2 := 1) (h2 := 1) ex_17 g_i (by decide) (by decide) (by decide)
              refine lv_iload_n hx hb dX6_tryUndone_117 rfl (lv_at hl 2 rfl) ?_
              refine lv_aload_n hx hb dX6_tryUndone_118 rfl (lv_at hl 1 rfl) ?_
              refine va_get (D := (dC, dI)) (ci := 6) (v := .ref oE) (C := RX6) (T := TX6) (N := 12) hx hb hts in_X6 hown hK hP 0 rfl rfl 3 (Nat.le_of_ble_eq_true rfl) (hts (.fieldLink RX6 56 "TextMender$Parting" "reading" "LTextMender$Reading;") (List.mem_of_getElem? (i := 1) rfl)) (fun _ h9 => h9) rfl dX6_tryUndone_119 ?_
              refine lv_bipush (v := 32) hx hb dX6_tryUndone_122 (by decide) ?_
              refine kV_i (rest := [.int h, .int x_17, .int fr, .ref oQ]) (q0 := 0) (ci := 8) hcf (f_X8_sumWith l dC dI cI cS H.size oE oC oK k1 k2 reE_10 laE_10 suE_10 leE_10 lK fK1 fK2 32 (hf10_0) (by omega) (g_lK) (by decide) (hT) (ho) (hV)) kc_X8_sumWith gX6_tryUndone_X8_sumWith rfl rfl rfl ⟨Nat.le_of_ble_eq_true rfl, Nat.le_of_ble_eq_true rfl⟩ kX_t hK hP hD hS hA (posT mk_54 0) (posF mk_54 0) (kC_of mk_54 rfl rfl) (by decide +kernel) rfl rfl rfl hl rfl (Nat.le_of_ble_eq_true rfl) dX6_tryUndone_124 ⟨Nat.le_of_ble_eq_true rfl, Nat.le_of_ble_eq_true rfl⟩ (fun r_18 H locs hB hJ hSn => ?_)
              refine hB _ (fun hPD9 hf18_0 hf18_1 => ?_)
              clear hB
              obtain ⟨hPn, hDn⟩ := kJi (m := mk_54) hJ rfl hPD9.1 hPD9.2 (wn := [(oQ, .inr (6, [.ref oC, .ref oH, .ref oK, .ref oE, .ref nq, .ref np, .ref nv, .ref q1, .ref q2, .ref q3, .ref q4, .int pr])), (q1, .inl (cI, 61, .inl fq1a)), (q2, .inl (cI, 61, .inl fq2a)), (q3, .inl (cI, 61, .inl fq3a)), (q4, .inl (cI, 61, .inl fq4a)), (nq, .inr (5, [.ref aq, .int lu_6])), (aq, .inl (cI, 480, .inl fu_6)), (oE, .inr (8, [.ref oC, .ref oK, .int reE_10, .int laE_10, .int suE_10, .int leE_10])), (oH, .inr (4, [.ref oP, .ref h1, .ref h2, .int lH])), (h1, .inl (cI, 6, .inl fH1)), (h2, .inl (cI, 6, .inl fH2)), (oC, .inr (2, [.ref o4, .ref o5])), (o4, .inr (10, [.ref a41, .ref a42, .ref a43, .int l4])), (a41, .inl (cI, 256, .inl f41)), (a42, .inl (cI, 512, .inl f42)), (a43, .inl (cI, 512, .inl f43)), (o5, .inr (10, [.ref a51, .ref a52, .ref a53, .int l5])), (a51, .inl (cI, 256, .inl f51)), (a52, .inl (cI, 512, .inl f52)), (a53, .inl (cI, 512, .inl f53)), (oK, .inr (3, [.ref k1, .ref k2, .int lK])), (k1, .inl (cI, 1024, .inl fK1)), (k2, .inl (cI, 1024, .inl fK2)), (nx, .inr (5, [.ref ax, .int lx])), (ax, .inl (cI, 300, .inl fx))]) rfl
              clear hP hD hS hJ hPD9
              have hP := hPn
              have hD := hDn
              have hS := hSn
              clear hPn hDn hSn
              refine kV_v (rest := []) (q0 := 0) (ci := 6) hcf (f_X6_offer l dC dI cI cS H.size oQ oC oH oK oE nq np nv q1 q2 q3 q4 pr fq1a fq2a fq3a fq4a fr x_17 h r_18 (g_pr) (g_fr) (by omega) (by omega) (by omega) ((QOK_at (en := x_17) hqk (by omega) (by omega) (by omega) (by omega) (by omega)).1) ((QOK_at (en := x_17) hqk (by omega) (by omega) (by omega) (by omega) (by omega)).2)) kc_X6_offer gX6_tryUndone_X6_offer rfl rfl rfl ⟨Nat.le_of_ble_eq_true rfl, Nat.le_of_ble_eq_true rfl⟩ kX_t hK hP hD hS hA (posT mk_55 0) (posF mk_55 0) (kC_of mk_55 rfl rfl) (by decide +kernel) rfl rfl rfl hl rfl (Nat.le_of_ble_eq_true rfl) dX6_tryUndone_127 ⟨Nat.le_of_ble_eq_true rfl, Nat.le_of_ble_eq_true rfl⟩ (fun H locs hB hJ hSn => ?_)
              refine hB _ (fun fQ1_19 fQ2_19 fQ3_19 fQ4_19 hPD9 hf19_0 => ?_)
              clear hB
              obtain ⟨hPn, hDn⟩ := kJi (m := mk_55) hJ rfl hPD9.1 hPD9.2 (wn := [(oQ, .inr (6, [.ref oC, .ref oH, .ref oK, .ref oE, .ref nq, .ref np, .ref nv, .ref q1, .ref q2, .ref q3, .ref q4, .int pr])), (q1, .inl (cI, 61, .inl fQ1_19)), (q2, .inl (cI, 61, .inl fQ2_19)), (q3, .inl (cI, 61, .inl fQ3_19)), (q4, .inl (cI, 61, .inl fQ4_19)), (nq, .inr (5, [.ref aq, .int lu_6])), (aq, .inl (cI, 480, .inl fu_6)), (oE, .inr (8, [.ref oC, .ref oK, .int reE_10, .int laE_10, .int suE_10, .int leE_10])), (oH, .inr (4, [.ref oP, .ref h1, .ref h2, .int lH])), (h1, .inl (cI, 6, .inl fH1)), (h2, .inl (cI, 6, .inl fH2)), (oC, .inr (2, [.ref o4, .ref o5])), (o4, .inr (10, [.ref a41, .ref a42, .ref a43, .int l4])), (a41, .inl (cI, 256, .inl f41)), (a42, .inl (cI, 512, .inl f42)), (a43, .inl (cI, 512, .inl f43)), (o5, .inr (10, [.ref a51, .ref a52, .ref a53, .int l5])), (a51, .inl (cI, 256, .inl f51)), (a52, .inl (cI, 512, .inl f52)), (a53, .inl (cI, 512, .inl f53)), (oK, .inr (3, [.ref k1, .ref k2, .int lK])), (k1, .inl (cI, 1024, .inl fK1)), (k2, .inl (cI, 1024, .inl fK2)), (nx, .inr (5, [.ref ax, .int lx])), (ax, .inl (cI, 300, .inl fx))]) rfl
              clear hP hD hS hJ hPD9
              have hP := hPn
              have hD := hDn
              have hS := hSn
              clear hPn hDn hSn
              obtain ⟨x_20, ex_20⟩ : ∃ y : Int32, y = i + 1 := ⟨_, rfl⟩
              have tx_20 : x_20.toInt = i.toInt + 1 := v_addR (l2 := 1) (h2 := 1) ex_20 g_i (by decide) (by decide) (by decide)
              refine lv_iinc (v := x_20) (lv' := [(5, .int x_20), (0, .ref oQ), (1, .int h), (2, .int fr), (3, .ref nx), (4, .int n)]) hx hb dX6_tryUndone_130 hl (k := 0) rfl (by rw [ex_20]; rfl) (by decide) rfl (fun ls hl => ?_)
              refine lv_goto (tgt := 18) hx hb dX6_tryUndone_133 (by decide) ?_
              exact ih_18 x_20 reE_10 laE_10 suE_10 leE_10 lu_6 fQ1_19 fQ2_19 fQ3_19 fQ4_19 fu_6 _ _ _ (ms_lt hm_18 (by show ((60 - x_20.toInt : Int)) < 60 - i.toInt; omega) (by show (0 : Int) < 60 - i.toInt; omega)) (by show 0 ≤ x_20.toInt ∧ x_20.toInt ≤ 60; omega) (by show 0 ≤ reE_10.toInt ∧ reE_10.toInt ≤ 2400; omega) (hf10_0) (by show 0 ≤ suE_10.toInt ∧ suE_10.toInt ≤ 480000; omega) (by show 0 ≤ leE_10.toInt ∧ leE_10.toInt ≤ 2400; omega) (by show 0 ≤ lu_6.toInt ∧ lu_6.toInt ≤ 480; omega) (by show fr.toInt ≤ x_20.toInt ∧ x_20.toInt ≤ n.toInt; omega) (by show lu_6.toInt ≤ 8 * (x_20.toInt - fr.toInt); omega) (by show suE_10.toInt ≤ 200 * leE_10.toInt ∧ leE_10.toInt ≤ reE_10.toInt ∧ reE_10.toInt ≤ lu_6.toInt ∧ leE_10.toInt ≤ 300; omega) (by rw [show x_20.toInt = i9.toInt by omega]; exact hw9) (hrg9) (QOK_of hf19_0 (by omega) hqk) (only_t hon (only_of hf19_0 (by omega))) ((BFS_off okU9 hbf hf19_0 hqk (by omega) (fun j hj => hlt j (by omega)) (by omega) (by omega) (by omega) ⟨by omega, by omega⟩ (Or.inr ⟨by omega, by have c9 := v_clamp (x := x_17) (by omega); rw [show x_17.toNatClampNeg - fr.toNatClampNeg = (i9.toInt - (fr.toNatClampNeg : Int)).toNat by omega]; exact hH9⟩) (hC9 _ hf18_1) (by omega) (by omega) (fun j2 h2 => by have c9 := v_clamp (x := x_17) (by omega); show (h2 < h.toInt ∨ (h2 = h.toInt ∧ (j2 : Int) ≤ x_20.toInt)) ↔ ((h2 < h.toInt ∨ (h2 = h.toInt ∧ (j2 : Int) ≤ i.toInt)) ∨ (j2 = x_17.toNatClampNeg ∧ h2 = h.toInt)); omega) (fun j2 h2 q9 => by have q8 : h2 < h.toInt ∨ (h2 = h.toInt ∧ (j2 : Int) ≤ i.toInt) := q9; omega)).1) hP hD hS (lv_sub hl [0, 1, 2, 3, 4, 5] rfl)
          · have tc_12 : 300 < leE_10.toInt := v_nle c_12
            exact kl_v hQQ hx hb hr hlocks hS dX6_tryUndone_93 (fun PZ9 kZ9 => kZ9 lu_6 fu_6 reE_10 laE_10 suE_10 leE_10 fq1a fq2a fq3a fq4a (⟨hP, hD⟩) (by omega) (hqk) (hon) (BFS_no hbf (fun j h2 q9 => by have q8 : h2 < h.toInt ∨ (h2 = h.toInt ∧ (j : Int) ≤ i.toInt) := q9; show h2 < h.toInt + 1; omega) (fun j h2 j1 j2 q9 => un_or (Q := fun k9 => ∀ c f', ¬ UC fH1 fH2 f41 f42 f43 f51 f52 f53 k9 (j - fr.toNatClampNeg) (fun k => fx (fr.toNatClampNeg + k)) c f') (i := i) (h := h) q9 (by omega) (fun j3 => hm_over hw9 (by omega) hrg9 (by omega) (by omega)))))
        · have tc_7 : r_6.toInt = 0 := v_eq c_7
          exact kl_v hQQ hx hb hr hlocks hS dX6_tryUndone_53 (fun PZ9 kZ9 => kZ9 lu_6 fu_6 rea laa sua lea fq1a fq2a fq3a fq4a (⟨hP, hD⟩) (by omega) (hqk) (hon) (BFS_no hbf (fun j h2 q9 => by have q8 : h2 < h.toInt ∨ (h2 = h.toInt ∧ (j : Int) ≤ i.toInt) := q9; show h2 < h.toInt + 1; omega) (fun j h2 j1 j2 q9 => un_or (Q := fun k9 => ∀ c f', ¬ UC fH1 fH2 f41 f42 f43 f51 f52 f53 k9 (j - fr.toNatClampNeg) (fun k => fx (fr.toNatClampNeg + k)) c f') (i := i) (h := h) q9 (by omega) (fun j3 => hm_enc (k := (i.toInt - (fr.toNatClampNeg : Int)).toNat) (by omega) (Eq.trans (by show enc (fH2 h.toNatClampNeg) (fx (fr.toNatClampNeg + (i.toInt - (fr.toNatClampNeg : Int)).toNat)) (Bc (fH2 h.toNatClampNeg) f42 f43 f52 f53 (fx (fr.toNatClampNeg + (i.toInt - (fr.toNatClampNeg : Int)).toNat))) = _; rw [show fr.toNatClampNeg + (i.toInt - (fr.toNatClampNeg : Int)).toNat = i.toNatClampNeg by omega, ← hg5, ← hf4_0]) (F_en_0 hf6_2 (by omega)))))))
  exact LOOP_18 _ fr reE_1 laE_1 suE_1 leE_1 lu_2 fQ1 fQ2 fQ3 fQ4 fq _ _ _ (ms_s _) (v_rr g_fr (by decide) (by decide)) (by show 0 ≤ reE_1.toInt ∧ reE_1.toInt ≤ 2400; omega) (by show 0 ≤ laE_1.toInt ∧ laE_1.toInt ≤ 65535; omega) (by show 0 ≤ suE_1.toInt ∧ suE_1.toInt ≤ 480000; omega) (by show 0 ≤ leE_1.toInt ∧ leE_1.toInt ≤ 2400; omega) (by show 0 ≤ lu_2.toInt ∧ lu_2.toInt ≤ 480; omega) (by show fr.toInt ≤ fr.toInt ∧ fr.toInt ≤ n.toInt; omega) (by show lu_2.toInt ≤ 8 * (fr.toInt - fr.toInt); omega) (by show suE_1.toInt ≤ 200 * leE_1.toInt ∧ leE_1.toInt ≤ reE_1.toInt ∧ reE_1.toInt ≤ lu_2.toInt ∧ leE_1.toInt ≤ 300; omega) (by rw [show (fr.toInt - (fr.toNatClampNeg : Int)).toNat = 0 by omega]; exact WR_0 (by omega)) (RS_0 hb5 hb2 hb6 hb7) (hq) (only_r) (BFS_A hb0 (fun j h2 s sp c9 => by have c8 := c9.1; show (h2 < h.toInt ∨ (h2 = h.toInt ∧ (j : Int) ≤ fr.toInt)) ↔ h2 < h.toInt; omega)) hP hD hS (lv_sub hl [0, 1, 2, 3, 4, 5] rfl)

end

/-! 5a.a.rows -/
section
set_option maxRecDepth 100000 in
theorem dA295_cX6_find : kDec cX6_find [(0, .aload_n 0, 1), (1, .iload_n 2, 1), (2, .putfield 60, 3), (5, .aload_n 1, 1), (6, .invokevirtual 64, 3), (9, .bipush 60, 2), (11, .invokestatic 68, 3), (14, .istore_n 3, 1), (15, .aload_n 0, 1), (16, .getfield 26, 3), (19, .iload_n 3, 1), (20, .iconst 0, 1), (21, .iastore, 1), (22, .aload_n 0, 1), (23, .getfield 30, 3), (26, .iload_n 3, 1), (27, .iconst 0, 1), (28, .iastore, 1), (29, .iload_n 3, 1), (30, .iconst 1, 1), (31, .isub, 1), (32, .istore 4, 2), (34, .iload 4, 2), (36, .ifCond .lt 56, 3)] = true := by decide +kernel
theorem dX6_find_0 : decode cX6_find 0 = .ok (.aload_n 0, 1) := kDec_at dA295_cX6_find 0 rfl
theorem dX6_find_1 : decode cX6_find 1 = .ok (.iload_n 2, 1) := kDec_at dA295_cX6_find 1 rfl
theorem dX6_find_2 : decode cX6_find 2 = .ok (.putfield 60, 3) := kDec_at dA295_cX6_find 2 rfl
theorem dX6_find_5 : decode cX6_find 5 = .ok (.aload_n 1, 1) := kDec_at dA295_cX6_find 3 rfl
theorem dX6_find_6 : decode cX6_find 6 = .ok (.invokevirtual 64, 3) := kDec_at dA295_cX6_find 4 rfl
theorem dX6_find_9 : decode cX6_find 9 = .ok (.bipush 60, 2) := kDec_at dA295_cX6_find 5 rfl
theorem dX6_find_11 : decode cX6_find 11 = .ok (.invokestatic 68, 3) := kDec_at dA295_cX6_find 6 rfl
theorem dX6_find_14 : decode cX6_find 14 = .ok (.istore_n 3, 1) := kDec_at dA295_cX6_find 7 rfl
theorem dX6_find_15 : decode cX6_find 15 = .ok (.aload_n 0, 1) := kDec_at dA295_cX6_find 8 rfl
theorem dX6_find_16 : decode cX6_find 16 = .ok (.getfield 26, 3) := kDec_at dA295_cX6_find 9 rfl
theorem dX6_find_19 : decode cX6_find 19 = .ok (.iload_n 3, 1) := kDec_at dA295_cX6_find 10 rfl
theorem dX6_find_20 : decode cX6_find 20 = .ok (.iconst 0, 1) := kDec_at dA295_cX6_find 11 rfl
theorem dX6_find_21 : decode cX6_find 21 = .ok (.iastore, 1) := kDec_at dA295_cX6_find 12 rfl
theorem dX6_find_22 : decode cX6_find 22 = .ok (.aload_n 0, 1) := kDec_at dA295_cX6_find 13 rfl
theorem dX6_find_23 : decode cX6_find 23 = .ok (.getfield 30, 3) := kDec_at dA295_cX6_find 14 rfl
theorem dX6_find_26 : decode cX6_find 26 = .ok (.iload_n 3, 1) := kDec_at dA295_cX6_find 15 rfl
theorem dX6_find_27 : decode cX6_find 27 = .ok (.iconst 0, 1) := kDec_at dA295_cX6_find 16 rfl
theorem dX6_find_28 : decode cX6_find 28 = .ok (.iastore, 1) := kDec_at dA295_cX6_find 17 rfl
theorem dX6_find_29 : decode cX6_find 29 = .ok (.iload_n 3, 1) := kDec_at dA295_cX6_find 18 rfl
theorem dX6_find_30 : decode cX6_find 30 = .ok (.iconst 1, 1) := kDec_at dA295_cX6_find 19 rfl
theorem dX6_find_31 : decode cX6_find 31 = .ok (.isub, 1) := kDec_at dA295_cX6_find 20 rfl
theorem dX6_find_32 : decode cX6_find 32 = .ok (.istore 4, 2) := kDec_at dA295_cX6_find 21 rfl
theorem dX6_find_34 : decode cX6_find 34 = .ok (.iload 4, 2) := kDec_at dA295_cX6_find 22 rfl
theorem dX6_find_36 : decode cX6_find 36 = .ok (.ifCond .lt 56, 3) := kDec_at dA295_cX6_find 23 rfl
set_option maxRecDepth 20000 in
theorem ggX6_find_X5_length : GoodIn wsX6_find wsX5_length := goodIn_sub (fun _ h => List.mem_cons_of_mem _ (List.mem_append_left _ (List.mem_append_left _ (List.mem_append_left _ (List.mem_append_right _ (h)))))) gX5_length_all
set_option maxRecDepth 20000 in
theorem gX6_find_X5_length : GoodIn wsX6_find (wsV RX6 64 RX5 yX5_length wsX5_length) := goodIn_app (goodIn_r _ [9, 10, 11, 12] rfl (by decide +kernel)) ggX6_find_X5_length
set_option maxRecDepth 100000 in
theorem dA296_cX6_find : kDec cX6_find [(92, .return_, 1), (39, .aload_n 0, 1), (40, .getfield 26, 3), (43, .iload 4, 2), (45, .iconst (-1), 1), (46, .iastore, 1), (47, .aload_n 0, 1), (48, .iload 4, 2), (50, .aload_n 1, 1), (51, .iload_n 3, 1), (52, .invokevirtual 74, 3), (55, .iconst 0, 1), (56, .istore 5, 2), (58, .iload 5, 2), (60, .aload_n 0, 1), (61, .getfield 43, 3), (64, .invokevirtual 78, 3), (67, .if_icmp .ge 19, 3), (86, .iinc 4 (-1), 3), (89, .goto (-55), 3), (70, .aload_n 0, 1), (71, .iload 5, 2), (73, .iload 4, 2), (75, .aload_n 1, 1)] = true := by decide +kernel
theorem dX6_find_92 : decode cX6_find 92 = .ok (.return_, 1) := kDec_at dA296_cX6_find 0 rfl
theorem dX6_find_39 : decode cX6_find 39 = .ok (.aload_n 0, 1) := kDec_at dA296_cX6_find 1 rfl
theorem dX6_find_40 : decode cX6_find 40 = .ok (.getfield 26, 3) := kDec_at dA296_cX6_find 2 rfl
theorem dX6_find_43 : decode cX6_find 43 = .ok (.iload 4, 2) := kDec_at dA296_cX6_find 3 rfl
theorem dX6_find_45 : decode cX6_find 45 = .ok (.iconst (-1), 1) := kDec_at dA296_cX6_find 4 rfl
theorem dX6_find_46 : decode cX6_find 46 = .ok (.iastore, 1) := kDec_at dA296_cX6_find 5 rfl
theorem dX6_find_47 : decode cX6_find 47 = .ok (.aload_n 0, 1) := kDec_at dA296_cX6_find 6 rfl
theorem dX6_find_48 : decode cX6_find 48 = .ok (.iload 4, 2) := kDec_at dA296_cX6_find 7 rfl
theorem dX6_find_50 : decode cX6_find 50 = .ok (.aload_n 1, 1) := kDec_at dA296_cX6_find 8 rfl
theorem dX6_find_51 : decode cX6_find 51 = .ok (.iload_n 3, 1) := kDec_at dA296_cX6_find 9 rfl
theorem dX6_find_52 : decode cX6_find 52 = .ok (.invokevirtual 74, 3) := kDec_at dA296_cX6_find 10 rfl
theorem dX6_find_55 : decode cX6_find 55 = .ok (.iconst 0, 1) := kDec_at dA296_cX6_find 11 rfl
theorem dX6_find_56 : decode cX6_find 56 = .ok (.istore 5, 2) := kDec_at dA296_cX6_find 12 rfl
theorem dX6_find_58 : decode cX6_find 58 = .ok (.iload 5, 2) := kDec_at dA296_cX6_find 13 rfl
theorem dX6_find_60 : decode cX6_find 60 = .ok (.aload_n 0, 1) := kDec_at dA296_cX6_find 14 rfl
theorem dX6_find_61 : decode cX6_find 61 = .ok (.getfield 43, 3) := kDec_at dA296_cX6_find 15 rfl
theorem dX6_find_64 : decode cX6_find 64 = .ok (.invokevirtual 78, 3) := kDec_at dA296_cX6_find 16 rfl
theorem dX6_find_67 : decode cX6_find 67 = .ok (.if_icmp .ge 19, 3) := kDec_at dA296_cX6_find 17 rfl
theorem dX6_find_86 : decode cX6_find 86 = .ok (.iinc 4 (-1), 3) := kDec_at dA296_cX6_find 18 rfl
theorem dX6_find_89 : decode cX6_find 89 = .ok (.goto (-55), 3) := kDec_at dA296_cX6_find 19 rfl
theorem dX6_find_70 : decode cX6_find 70 = .ok (.aload_n 0, 1) := kDec_at dA296_cX6_find 20 rfl
theorem dX6_find_71 : decode cX6_find 71 = .ok (.iload 5, 2) := kDec_at dA296_cX6_find 21 rfl
theorem dX6_find_73 : decode cX6_find 73 = .ok (.iload 4, 2) := kDec_at dA296_cX6_find 22 rfl
theorem dX6_find_75 : decode cX6_find 75 = .ok (.aload_n 1, 1) := kDec_at dA296_cX6_find 23 rfl
set_option maxRecDepth 20000 in
theorem gX6_tryAsItIs_all : wsX6_tryAsItIs.all goodWord = true := by
  unfold wsX6_tryAsItIs
  exact good_c (by decide +kernel) (good_a (good_a (good_a (good_a (good_a (good_a ((by decide +kernel)) gX6_clsall) gX5_clsall) gX3_clsall) gX5_get_all) gX3_of_all) gX6_offer_all)
set_option maxRecDepth 20000 in
theorem ggX6_find_X6_tryAsItIs : GoodIn wsX6_find wsX6_tryAsItIs := goodIn_sub (fun _ h => List.mem_cons_of_mem _ (List.mem_append_left _ (List.mem_append_left _ (List.mem_append_right _ (h))))) gX6_tryAsItIs_all
set_option maxRecDepth 20000 in
theorem gX6_find_X6_tryAsItIs : GoodIn wsX6_find (wsV RX6 74 RX6 yX6_tryAsItIs wsX6_tryAsItIs) := goodIn_app (goodIn_r _ [13, 14, 15, 16] rfl (by decide +kernel)) ggX6_find_X6_tryAsItIs
set_option maxRecDepth 20000 in
theorem ggX6_find_X4_length : GoodIn wsX6_find wsX4_length := goodIn_sub (fun _ h => List.mem_cons_of_mem _ (List.mem_append_left _ (List.mem_append_right _ (h)))) gX4_length_all
set_option maxRecDepth 20000 in
theorem gX6_find_X4_length : GoodIn wsX6_find (wsV RX6 78 RX4 yX4_length wsX4_length) := goodIn_app (goodIn_r _ [17, 18, 19, 20] rfl (by decide +kernel)) ggX6_find_X4_length
set_option maxRecDepth 100000 in
theorem dA297_cX6_find : kDec cX6_find [(76, .iload_n 3, 1), (77, .invokevirtual 81, 3), (80, .iinc 5 1, 3), (83, .goto (-25), 3)] = true := by decide +kernel
theorem dX6_find_76 : decode cX6_find 76 = .ok (.iload_n 3, 1) := kDec_at dA297_cX6_find 0 rfl
theorem dX6_find_77 : decode cX6_find 77 = .ok (.invokevirtual 81, 3) := kDec_at dA297_cX6_find 1 rfl
theorem dX6_find_80 : decode cX6_find 80 = .ok (.iinc 5 1, 3) := kDec_at dA297_cX6_find 2 rfl
theorem dX6_find_83 : decode cX6_find 83 = .ok (.goto (-25), 3) := kDec_at dA297_cX6_find 3 rfl
set_option maxRecDepth 20000 in
theorem gX6_tryUndone_all : wsX6_tryUndone.all goodWord = true := by
  unfold wsX6_tryUndone
  exact good_c (by decide +kernel) (good_a (good_a (good_a (good_a (good_a (good_a (good_a (good_a (good_a (good_a (good_a (good_a (good_a (good_a (good_a (good_a (good_a (good_a (good_a ((by decide +kernel)) gX6_clsall) gX8_clsall) gX5_clsall) gX4_clsall) gX2_clsall) gX10_clsall) gX3_clsall) gX8_begin_all) gX5_cut_all) gX4_readIn_all) gX5_get_all) gX2_encode_all) gX4_writtenIn_all) gX5_length_all) gX8_goOn_all) gX8_letters_all) gX8_reached_all) gX8_sumWith_all) gX6_offer_all)
set_option maxRecDepth 20000 in
theorem ggX6_find_X6_tryUndone : GoodIn wsX6_find wsX6_tryUndone := goodIn_sub (fun _ h => List.mem_cons_of_mem _ (List.mem_append_right _ (h))) gX6_tryUndone_all
set_option maxRecDepth 20000 in
theorem gX6_find_X6_tryUndone : GoodIn wsX6_find (wsV RX6 81 RX6 yX6_tryUndone wsX6_tryUndone) := goodIn_app (goodIn_r _ [21, 22, 23, 16] rfl (by decide +kernel)) ggX6_find_X6_tryUndone

end

/-! 5a.parts -/
section
theorem QOK_dn {n m m' : Int} {i : Nat} {Q1 Q2 : Nat → Int32} (h : QOK n m Q1 Q2) (em : m = i) (em' : m' = i - 1) (hi : (i : Int) < n) (b : 0 ≤ (Q1 i).toInt ∧ (Q1 i).toInt ≤ 70000 * (n - i) ∧ 1 ≤ (Q2 i).toInt ∧ (Q2 i).toInt ≤ n - i) : QOK n m' Q1 Q2 := by
  intro j h1 h2
  by_cases e : j = i
  · subst e
    exact ⟨b.1, b.2.1, by omega, b.2.2.2, fun _ => b.2.2.1⟩
  · exact h j (by omega) h2

set_option maxHeartbeats 40000000 in
set_option maxRecDepth 100000 in
theorem f_X6_find (l : Launch) (dC : Nat → ClassId) (dI : Nat → Nat → Nat) (cI cS : ClassId) (sz : Nat) (oQ : Nat) (nx : Nat) (oC : Nat) (oH : Nat) (oK : Nat) (oE : Nat) (nq : Nat) (np : Nat) (nv : Nat) (q1 : Nat) (q2 : Nat) (q3 : Nat) (q4 : Nat) (aq : Nat) (oP : Nat) (h1 : Nat) (h2 : Nat) (o4 : Nat) (o5 : Nat) (a41 : Nat) (a42 : Nat) (a43 : Nat) (a51 : Nat) (a52 : Nat) (a53 : Nat) (k1 : Nat) (k2 : Nat) (ax : Nat) (pr : Int32) (fQ1 : Nat → Int32) (fQ2 : Nat → Int32) (fQ3 : Nat → Int32) (fQ4 : Nat → Int32) (lq : Int32) (fq : Nat → Int32) (reE : Int32) (laE : Int32) (suE : Int32) (leE : Int32) (lH : Int32) (fH1 : Nat → Int32) (fH2 : Nat → Int32) (l4 : Int32) (f41 : Nat → Int32) (f42 : Nat → Int32) (f43 : Nat → Int32) (l5 : Int32) (f51 : Nat → Int32) (f52 : Nat → Int32) (f53 : Nat → Int32) (lK : Int32) (fK1 : Nat → Int32) (fK2 : Nat → Int32) (lx : Int32) (fx : Nat → Int32) (pe : Int32) (g_lq : 0 ≤ lq.toInt ∧ lq.toInt ≤ 480) (g_lH : 0 ≤ lH.toInt ∧ lH.toInt ≤ 6) (g_lK : 0 ≤ lK.toInt ∧ lK.toInt ≤ 300) (g_lx : 0 ≤ lx.toInt ∧ lx.toInt ≤ 300) (g_pe : 0 ≤ pe.toInt ∧ pe.toInt ≤ 1000) (hlx6 : 1 ≤ lx.toInt ∧ lx.toInt ≤ 60) (hlt : prg lx.toInt 0 65535 fx) (hT4 : HT 512 511 hsT f42 f43) (ho4 : (occ f43 512 : Int) ≤ 511) (hT5 : HT 512 511 hsT f52 f53) (ho5 : (occ f53 512 : Int) ≤ 511) (hL4 : prg 256 (-1) 65535 f41) (hL5 : prg 256 (-1) 65535 f51) (hBr : ∀ cd : Int32, okB (Bc cd f42 f43 f52 f53)) (hT : HT 1024 1023 hsK fK1 fK2) (ho : (occ fK2 1024 : Int) ≤ lK.toInt) (hV : prg 1024 (-1) 200 fK2) : kMv l yX6_find wsX6_find ({ frames := 6, cells := 0, slots := 0, locals := 149 } : Room) [.ref oQ, .ref nx, .int pe] sz (dC, dI) vwCl [(cI, .int), (cS, .short)] [(oQ, .inr (6, [.ref oC, .ref oH, .ref oK, .ref oE, .ref nq, .ref np, .ref nv, .ref q1, .ref q2, .ref q3, .ref q4, .int pr])), (q1, .inl (cI, 61, .inl fQ1)), (q2, .inl (cI, 61, .inl fQ2)), (q3, .inl (cI, 61, .inl fQ3)), (q4, .inl (cI, 61, .inl fQ4)), (nq, .inr (5, [.ref aq, .int lq])), (aq, .inl (cI, 480, .inl fq)), (oE, .inr (8, [.ref oC, .ref oK, .int reE, .int laE, .int suE, .int leE])), (oH, .inr (4, [.ref oP, .ref h1, .ref h2, .int lH])), (h1, .inl (cI, 6, .inl fH1)), (h2, .inl (cI, 6, .inl fH2)), (oC, .inr (2, [.ref o4, .ref o5])), (o4, .inr (10, [.ref a41, .ref a42, .ref a43, .int l4])), (a41, .inl (cI, 256, .inl f41)), (a42, .inl (cI, 512, .inl f42)), (a43, .inl (cI, 512, .inl f43)), (o5, .inr (10, [.ref a51, .ref a52, .ref a53, .int l5])), (a51, .inl (cI, 256, .inl f51)), (a52, .inl (cI, 512, .inl f52)), (a53, .inl (cI, 512, .inl f53)), (oK, .inr (3, [.ref k1, .ref k2, .int lK])), (k1, .inl (cI, 1024, .inl fK1)), (k2, .inl (cI, 1024, .inl fK2)), (nx, .inr (5, [.ref ax, .int lx])), (ax, .inl (cI, 300, .inl fx))] (va_Nw (.methodLinkNest RX2 52 yX11_isLetter "TextMender")) 0 0 (fun (A : Nat → Prop) (hh9 : Heap) => ∀ PZ9 : Prop, (∀ (lq' : Int32) (fq' : Nat → Int32) (reE' : Int32) (laE' : Int32) (suE' : Int32) (leE' : Int32) (fQ1' : Nat → Int32) (fQ2' : Nat → Int32) (fQ3' : Nat → Int32) (fQ4' : Nat → Int32) (pr' : Int32), kPD (dC, dI) vwCl A [(oQ, .inr (6, [.ref oC, .ref oH, .ref oK, .ref oE, .ref nq, .ref np, .ref nv, .ref q1, .ref q2, .ref q3, .ref q4, .int pr'])), (q1, .inl (cI, 61, .inl fQ1')), (q2, .inl (cI, 61, .inl fQ2')), (q3, .inl (cI, 61, .inl fQ3')), (q4, .inl (cI, 61, .inl fQ4')), (nq, .inr (5, [.ref aq, .int lq'])), (aq, .inl (cI, 480, .inl fq')), (oE, .inr (8, [.ref oC, .ref oK, .int reE', .int laE', .int suE', .int leE'])), (oH, .inr (4, [.ref oP, .ref h1, .ref h2, .int lH])), (h1, .inl (cI, 6, .inl fH1)), (h2, .inl (cI, 6, .inl fH2)), (oC, .inr (2, [.ref o4, .ref o5])), (o4, .inr (10, [.ref a41, .ref a42, .ref a43, .int l4])), (a41, .inl (cI, 256, .inl f41)), (a42, .inl (cI, 512, .inl f42)), (a43, .inl (cI, 512, .inl f43)), (o5, .inr (10, [.ref a51, .ref a52, .ref a53, .int l5])), (a51, .inl (cI, 256, .inl f51)), (a52, .inl (cI, 512, .inl f52)), (a53, .inl (cI, 512, .inl f53)), (oK, .inr (3, [.ref k1, .ref k2, .int lK])), (k1, .inl (cI, 1024, .inl fK1)), (k2, .inl (cI, 1024, .inl fK2)), (nx, .inr (5, [.ref ax, .int lx])), (ax, .inl (cI, 300, .inl fx))] hh9 → (0 ≤ lq'.toInt ∧ lq'.toInt ≤ 480) → (PBK (UC fH1 fH2 f41 f42 f43 f51 f52 f53) (tcC fK1 fK2) lH.toNatClampNeg lx.toNatClampNeg fx pe.toInt (0) fQ1' fQ2' fQ3' fQ4') → PZ9) → PZ9) := by
  refine kMv_of (cc := cX6_find) (maxL := 6) (ret := none) (lv := [(0, .ref oQ), (1, .ref nx), (2, .int pe)]) (by decide +kernel) rfl rfl (Nat.le_of_ble_eq_true rfl) ?_
  intro p e s m below meth c A QQ ls hx hb hr hts hml hown hlocks hA hQQ hK hX hP hD hS hl
  have hown : s.vm.findClass RX6 = some m.cls := hown
  have hcf := k_cf hx hb hml hown hts
  have hN52 := hX
  have in_X6 : ∀ w ∈ wsX60, w ∈ wsX6_find := fun _ h => List.mem_cons_of_mem _ (List.mem_append_left _ (List.mem_append_left _ (List.mem_append_left _ (List.mem_append_left _ (List.mem_append_left _ (List.mem_append_left _ (List.mem_append_left _ (List.mem_append_left _ (List.mem_append_left _ (List.mem_append_left _ (List.mem_append_right _ (h))))))))))))
  replace g_lq := hid g_lq
  have z0 : (0 : Int32).toInt = 0 := rfl
  have z1 : (1 : Int32).toInt = 1 := rfl
  have zm1 : (-1 : Int32).toInt = -1 := rfl
  have okU9 : okU (UC fH1 fH2 f41 f42 f43 f51 f52 f53) := okU_C hBr hL4 hL5
  have cz9 := v_clamp (x := lH) (by omega)
  have cx9 := v_clamp (x := lx) (by omega)
  refine lv_aload_n hx hb dX6_find_0 rfl (lv_at hl 0 rfl) ?_
  refine lv_iload_n hx hb dX6_find_1 rfl (lv_at hl 2 rfl) ?_
  refine va_put (D := (dC, dI)) (ci := 6) (v := .int pe) (ty := .int) (C := RX6) (T := TX6) (N := 12) hx hb hts in_X6 tyX6 tyX6_ok nmX6 hown hK hP hD hS 0 rfl rfl 11 (Nat.le_of_ble_eq_true rfl) (hts (.fieldLink RX6 60 "TextMender$Parting" "price" "I") (List.mem_of_getElem? (i := 1) rfl)) (fun _ h9 => h9) rfl (tyX6_ok 11 (Nat.le_of_ble_eq_true rfl)) rfl rfl (Nat.le_of_ble_eq_true rfl) dX6_find_2 (kW (wn := [(oQ, .inr (6, [.ref oC, .ref oH, .ref oK, .ref oE, .ref nq, .ref np, .ref nv, .ref q1, .ref q2, .ref q3, .ref q4, .int pe])), (q1, .inl (cI, 61, .inl fQ1)), (q2, .inl (cI, 61, .inl fQ2)), (q3, .inl (cI, 61, .inl fQ3)), (q4, .inl (cI, 61, .inl fQ4)), (nq, .inr (5, [.ref aq, .int lq])), (aq, .inl (cI, 480, .inl fq)), (oE, .inr (8, [.ref oC, .ref oK, .int reE, .int laE, .int suE, .int leE])), (oH, .inr (4, [.ref oP, .ref h1, .ref h2, .int lH])), (h1, .inl (cI, 6, .inl fH1)), (h2, .inl (cI, 6, .inl fH2)), (oC, .inr (2, [.ref o4, .ref o5])), (o4, .inr (10, [.ref a41, .ref a42, .ref a43, .int l4])), (a41, .inl (cI, 256, .inl f41)), (a42, .inl (cI, 512, .inl f42)), (a43, .inl (cI, 512, .inl f43)), (o5, .inr (10, [.ref a51, .ref a52, .ref a53, .int l5])), (a51, .inl (cI, 256, .inl f51)), (a52, .inl (cI, 512, .inl f52)), (a53, .inl (cI, 512, .inl f53)), (oK, .inr (3, [.ref k1, .ref k2, .int lK])), (k1, .inl (cI, 1024, .inl fK1)), (k2, .inl (cI, 1024, .inl fK2)), (nx, .inr (5, [.ref ax, .int lx])), (ax, .inl (cI, 300, .inl fx))]) rfl (fun H locs hPn hDn hSn => ?_))
  clear hP hD hS
  have hP := hPn
  have hD := hDn
  have hS := hSn
  clear hPn hDn hSn
  refine lv_aload_n hx hb dX6_find_5 rfl (lv_at hl 1 rfl) ?_
  refine kV_i (rest := []) (q0 := 0) (ci := 5) hcf (m_X5_length l dC dI cI cS H.size nx ax lx ) kc_X5_length gX6_find_X5_length rfl rfl rfl ⟨Nat.le_of_ble_eq_true rfl, Nat.le_of_ble_eq_true rfl⟩ kX_t hK hP hD hS hA (posT mk_56 0) (posF mk_56 0) (kC_of mk_56 rfl rfl) (by decide +kernel) rfl rfl rfl hl rfl (Nat.le_of_ble_eq_true rfl) dX6_find_6 ⟨Nat.le_of_ble_eq_true rfl, Nat.le_of_ble_eq_true rfl⟩ (fun r_1 H locs hB hJ hSn => ?_)
  refine hB _ (fun hPD9 hf1_0 => ?_)
  clear hB
  obtain ⟨hPn, hDn⟩ := kJi (m := mk_56) hJ rfl hPD9.1 hPD9.2 (wn := [(oQ, .inr (6, [.ref oC, .ref oH, .ref oK, .ref oE, .ref nq, .ref np, .ref nv, .ref q1, .ref q2, .ref q3, .ref q4, .int pe])), (q1, .inl (cI, 61, .inl fQ1)), (q2, .inl (cI, 61, .inl fQ2)), (q3, .inl (cI, 61, .inl fQ3)), (q4, .inl (cI, 61, .inl fQ4)), (nq, .inr (5, [.ref aq, .int lq])), (aq, .inl (cI, 480, .inl fq)), (oE, .inr (8, [.ref oC, .ref oK, .int reE, .int laE, .int suE, .int leE])), (oH, .inr (4, [.ref oP, .ref h1, .ref h2, .int lH])), (h1, .inl (cI, 6, .inl fH1)), (h2, .inl (cI, 6, .inl fH2)), (oC, .inr (2, [.ref o4, .ref o5])), (o4, .inr (10, [.ref a41, .ref a42, .ref a43, .int l4])), (a41, .inl (cI, 256, .inl f41)), (a42, .inl (cI, 512, .inl f42)), (a43, .inl (cI, 512, .inl f43)), (o5, .inr (10, [.ref a51, .ref a52, .ref a53, .int l5])), (a51, .inl (cI, 256, .inl f51)), (a52, .inl (cI, 512, .inl f52)), (a53, .inl (cI, 512, .inl f53)), (oK, .inr (3, [.ref k1, .ref k2, .int lK])), (k1, .inl (cI, 1024, .inl fK1)), (k2, .inl (cI, 1024, .inl fK2)), (nx, .inr (5, [.ref ax, .int lx])), (ax, .inl (cI, 300, .inl fx))]) rfl
  clear hP hD hS hJ hPD9
  have hP := hPn
  have hD := hDn
  have hS := hSn
  clear hPn hDn hSn
  rw [hf1_0]
  refine lv_bipush (v := 60) hx hb dX6_find_9 (by decide) ?_
  refine va_mmin hx hb (by rw [hml]; exact hl.1.symm) hown (hts (.methodLink RX6 68 Lib.Math.min.name) (List.mem_of_getElem? (i := 2) rfl)) (hts (.static Lib.Math.min.name) (List.mem_of_getElem? (i := 3) rfl)) (hts (.initialized "java/lang/Math") (List.mem_of_getElem? (i := 4) rfl)) (hts (.code Lib.Math.min.name Lib.Math.min.code 2 (some .int)) (List.mem_of_getElem? (i := 5) rfl)) (Nat.le_of_ble_eq_true rfl) (Nat.le_of_ble_eq_true rfl) (Nat.zero_le _) (Nat.zero_le _) dX6_find_11 ?_
  refine lv_topi (fun x_2 ex_2 => ?_)
  have tx_2 : x_2.toInt ≤ lx.toInt ∧ x_2.toInt ≤ 60 ∧ (x_2.toInt = lx.toInt ∨ x_2.toInt = 60) := v_min ex_2
  refine lv_istore_n (lv' := [(3, .int x_2), (0, .ref oQ), (1, .ref nx), (2, .int pe)]) hx hb dX6_find_14 rfl hl (by decide) rfl (fun ls hl => ?_)
  have e9 : x_2 = lx := v_inj (by omega)
  rw [e9] at hl
  refine lv_aload_n hx hb dX6_find_15 rfl (lv_at hl 1 rfl) ?_
  refine va_get (D := (dC, dI)) (ci := 6) (v := .ref q1) (C := RX6) (T := TX6) (N := 12) hx hb hts in_X6 hown hK hP 0 rfl rfl 7 (Nat.le_of_ble_eq_true rfl) (hts (.fieldLink RX6 26 "TextMender$Parting" "leastCost" "[I") (List.mem_of_getElem? (i := 6) rfl)) (fun _ h9 => h9) rfl dX6_find_16 ?_
  refine lv_iload_n hx hb dX6_find_19 rfl (lv_at hl 0 rfl) ?_
  refine lv_iconst (v := 0) hx hb dX6_find_20 (by decide) ?_
  obtain ⟨f_3, ef_3⟩ : ∃ g : Nat → Int32, g = upd fQ1 (lx : Int32).toNatClampNeg 0 := ⟨_, rfl⟩
  refine va_iast hx hb hK hP hD hS 1 0 rfl rfl (v_in (by omega)) dX6_find_21 (kWf (g := f_3) (F := fun f_3 => [(oQ, .inr (6, [.ref oC, .ref oH, .ref oK, .ref oE, .ref nq, .ref np, .ref nv, .ref q1, .ref q2, .ref q3, .ref q4, .int pe])), (q1, .inl (cI, 61, .inl f_3)), (q2, .inl (cI, 61, .inl fQ2)), (q3, .inl (cI, 61, .inl fQ3)), (q4, .inl (cI, 61, .inl fQ4)), (nq, .inr (5, [.ref aq, .int lq])), (aq, .inl (cI, 480, .inl fq)), (oE, .inr (8, [.ref oC, .ref oK, .int reE, .int laE, .int suE, .int leE])), (oH, .inr (4, [.ref oP, .ref h1, .ref h2, .int lH])), (h1, .inl (cI, 6, .inl fH1)), (h2, .inl (cI, 6, .inl fH2)), (oC, .inr (2, [.ref o4, .ref o5])), (o4, .inr (10, [.ref a41, .ref a42, .ref a43, .int l4])), (a41, .inl (cI, 256, .inl f41)), (a42, .inl (cI, 512, .inl f42)), (a43, .inl (cI, 512, .inl f43)), (o5, .inr (10, [.ref a51, .ref a52, .ref a53, .int l5])), (a51, .inl (cI, 256, .inl f51)), (a52, .inl (cI, 512, .inl f52)), (a53, .inl (cI, 512, .inl f53)), (oK, .inr (3, [.ref k1, .ref k2, .int lK])), (k1, .inl (cI, 1024, .inl fK1)), (k2, .inl (cI, 1024, .inl fK2)), (nx, .inr (5, [.ref ax, .int lx])), (ax, .inl (cI, 300, .inl fx))]) ef_3 rfl (fun H locs hPn hDn hSn => ?_))
  clear hP hD hS
  have hP := hPn
  have hD := hDn
  have hS := hSn
  clear hPn hDn hSn
  refine lv_aload_n hx hb dX6_find_22 rfl (lv_at hl 1 rfl) ?_
  refine va_get (D := (dC, dI)) (ci := 6) (v := .ref q2) (C := RX6) (T := TX6) (N := 12) hx hb hts in_X6 hown hK hP 0 rfl rfl 8 (Nat.le_of_ble_eq_true rfl) (hts (.fieldLink RX6 30 "TextMender$Parting" "spansFrom" "[I") (List.mem_of_getElem? (i := 7) rfl)) (fun _ h9 => h9) rfl dX6_find_23 ?_
  refine lv_iload_n hx hb dX6_find_26 rfl (lv_at hl 0 rfl) ?_
  refine lv_iconst (v := 0) hx hb dX6_find_27 (by decide) ?_
  obtain ⟨f_4, ef_4⟩ : ∃ g : Nat → Int32, g = upd fQ2 (lx : Int32).toNatClampNeg 0 := ⟨_, rfl⟩
  refine va_iast hx hb hK hP hD hS 2 0 rfl rfl (v_in (by omega)) dX6_find_28 (kWf (g := f_4) (F := fun f_4 => [(oQ, .inr (6, [.ref oC, .ref oH, .ref oK, .ref oE, .ref nq, .ref np, .ref nv, .ref q1, .ref q2, .ref q3, .ref q4, .int pe])), (q1, .inl (cI, 61, .inl f_3)), (q2, .inl (cI, 61, .inl f_4)), (q3, .inl (cI, 61, .inl fQ3)), (q4, .inl (cI, 61, .inl fQ4)), (nq, .inr (5, [.ref aq, .int lq])), (aq, .inl (cI, 480, .inl fq)), (oE, .inr (8, [.ref oC, .ref oK, .int reE, .int laE, .int suE, .int leE])), (oH, .inr (4, [.ref oP, .ref h1, .ref h2, .int lH])), (h1, .inl (cI, 6, .inl fH1)), (h2, .inl (cI, 6, .inl fH2)), (oC, .inr (2, [.ref o4, .ref o5])), (o4, .inr (10, [.ref a41, .ref a42, .ref a43, .int l4])), (a41, .inl (cI, 256, .inl f41)), (a42, .inl (cI, 512, .inl f42)), (a43, .inl (cI, 512, .inl f43)), (o5, .inr (10, [.ref a51, .ref a52, .ref a53, .int l5])), (a51, .inl (cI, 256, .inl f51)), (a52, .inl (cI, 512, .inl f52)), (a53, .inl (cI, 512, .inl f53)), (oK, .inr (3, [.ref k1, .ref k2, .int lK])), (k1, .inl (cI, 1024, .inl fK1)), (k2, .inl (cI, 1024, .inl fK2)), (nx, .inr (5, [.ref ax, .int lx])), (ax, .inl (cI, 300, .inl fx))]) ef_4 rfl (fun H locs hPn hDn hSn => ?_))
  clear hP hD hS
  have hP := hPn
  have hD := hDn
  have hS := hSn
  clear hPn hDn hSn
  refine lv_iload_n hx hb dX6_find_29 rfl (lv_at hl 0 rfl) ?_
  refine lv_iconst (v := 1) hx hb dX6_find_30 (by decide) ?_
  refine lv_isub hx hb dX6_find_31 ?_
  refine lv_topi (fun x_5 ex_5 => ?_)
  have tx_5 : x_5.toInt = lx.toInt - 1 := v_subR (l2 := 1) (h2 := 1) ex_5 g_lx (by decide) (by decide) (by decide)
  refine lv_istore (lv' := [(4, .int x_5), (3, .int lx), (0, .ref oQ), (1, .ref nx), (2, .int pe)]) hx hb dX6_find_32 hl (by decide) rfl (fun ls hl => ?_)
  have LOOP_34 : ∀ (k_34 : Nat) (fr : Int32) (reb : Int32) (lab : Int32) (sub : Int32) (leb : Int32) (lqb : Int32) (fq1b : Nat → Int32) (fq2b : Nat → Int32) (fq3b : Nat → Int32) (fq4b : Nat → Int32) (fqb : Nat → Int32) (H : Heap) (locs : List Loc) (ls : Array Slot), MSd (fr.toInt + 1 : Int) k_34 → (-1 ≤ fr.toInt ∧ fr.toInt ≤ 59) → (0 ≤ lqb.toInt ∧ lqb.toInt ≤ 480) → (fr.toInt < lx.toInt) → (QOK (lx.toNatClampNeg : Int) fr.toInt fq1b fq2b) → (PBK (UC fH1 fH2 f41 f42 f43 f51 f52 f53) (tcC fK1 fK2) lH.toNatClampNeg lx.toNatClampNeg fx pe.toInt (fr.toInt + 1) fq1b fq2b fq3b fq4b) → va_P (dC, dI) vwCl [(oQ, .inr (6, [.ref oC, .ref oH, .ref oK, .ref oE, .ref nq, .ref np, .ref nv, .ref q1, .ref q2, .ref q3, .ref q4, .int pe])), (q1, .inl (cI, 61, .inl fq1b)), (q2, .inl (cI, 61, .inl fq2b)), (q3, .inl (cI, 61, .inl fq3b)), (q4, .inl (cI, 61, .inl fq4b)), (nq, .inr (5, [.ref aq, .int lqb])), (aq, .inl (cI, 480, .inl fqb)), (oE, .inr (8, [.ref oC, .ref oK, .int reb, .int lab, .int sub, .int leb])), (oH, .inr (4, [.ref oP, .ref h1, .ref h2, .int lH])), (h1, .inl (cI, 6, .inl fH1)), (h2, .inl (cI, 6, .inl fH2)), (oC, .inr (2, [.ref o4, .ref o5])), (o4, .inr (10, [.ref a41, .ref a42, .ref a43, .int l4])), (a41, .inl (cI, 256, .inl f41)), (a42, .inl (cI, 512, .inl f42)), (a43, .inl (cI, 512, .inl f43)), (o5, .inr (10, [.ref a51, .ref a52, .ref a53, .int l5])), (a51, .inl (cI, 256, .inl f51)), (a52, .inl (cI, 512, .inl f52)), (a53, .inl (cI, 512, .inl f53)), (oK, .inr (3, [.ref k1, .ref k2, .int lK])), (k1, .inl (cI, 1024, .inl fK1)), (k2, .inl (cI, 1024, .inl fK2)), (nx, .inr (5, [.ref ax, .int lx])), (ax, .inl (cI, 300, .inl fx))] H → va_D A [(oQ, .inr (6, [.ref oC, .ref oH, .ref oK, .ref oE, .ref nq, .ref np, .ref nv, .ref q1, .ref q2, .ref q3, .ref q4, .int pe])), (q1, .inl (cI, 61, .inl fq1b)), (q2, .inl (cI, 61, .inl fq2b)), (q3, .inl (cI, 61, .inl fq3b)), (q4, .inl (cI, 61, .inl fq4b)), (nq, .inr (5, [.ref aq, .int lqb])), (aq, .inl (cI, 480, .inl fqb)), (oE, .inr (8, [.ref oC, .ref oK, .int reb, .int lab, .int sub, .int leb])), (oH, .inr (4, [.ref oP, .ref h1, .ref h2, .int lH])), (h1, .inl (cI, 6, .inl fH1)), (h2, .inl (cI, 6, .inl fH2)), (oC, .inr (2, [.ref o4, .ref o5])), (o4, .inr (10, [.ref a41, .ref a42, .ref a43, .int l4])), (a41, .inl (cI, 256, .inl f41)), (a42, .inl (cI, 512, .inl f42)), (a43, .inl (cI, 512, .inl f43)), (o5, .inr (10, [.ref a51, .ref a52, .ref a53, .int l5])), (a51, .inl (cI, 256, .inl f51)), (a52, .inl (cI, 512, .inl f52)), (a53, .inl (cI, 512, .inl f53)), (oK, .inr (3, [.ref k1, .ref k2, .int lK])), (k1, .inl (cI, 1024, .inl fK1)), (k2, .inl (cI, 1024, .inl fK2)), (nx, .inr (5, [.ref ax, .int lx])), (ax, .inl (cI, 300, .inl fx))] → va_S A s.heap H locs → lv_has ls 6 [(4, .int fr), (3, .int lx), (0, .ref oQ), (1, .ref nx), (2, .int pe)] → W p l e (headSpec wsX6_find ({ frames := 6, cells := 0, slots := 0, locals := 149 } : Room)).room s m ([.ref oQ, .ref nx, .int pe] : List Value).toArray below meth c H locs 0 0 (MQ below QQ ([.ref oQ, .ref nx, .int pe] : List Value).toArray s 0 0 A) (F0 m 34 ls []) := by
    clear hP hD hS hl
    intro k_34
    induction k_34 with
    | zero =>
      intro fr reb lab sub leb lqb fq1b fq2b fq3b fq4b fqb H locs ls hm_34 g_fr g_lqb hfl hqk hpb hP hD hS hl
      exact ms_0 hm_34
    | succ k_34 ih_34 =>
      intro fr reb lab sub leb lqb fq1b fq2b fq3b fq4b fqb H locs ls hm_34 g_fr g_lqb hfl hqk hpb hP hD hS hl
      refine lv_iload hx hb dX6_find_34 (lv_at hl 0 rfl) ?_
      refine lv_if_lt (tgt := 92) hx hb dX6_find_36 (by decide) (fun c_6 => ?_) (fun c_6 => ?_)
      · have tc_6 : fr.toInt < 0 := v_lt c_6
        exact kl_v hQQ hx hb hr hlocks hS dX6_find_92 (fun PZ9 kZ9 => kZ9 lqb fqb reb lab sub leb fq1b fq2b fq3b fq4b pe (⟨hP, hD⟩) (g_lqb) (fun i h1 h2 => hpb i (by omega) h2))
      · have tc_6 : 0 ≤ fr.toInt := v_nlt c_6
        have cf9 := v_clamp (x := fr) (by omega)
        have hqk9 : QOK (lx.toNatClampNeg : Int) (fr.toNatClampNeg : Int) fq1b fq2b := by rw [cf9]; exact hqk
        refine lv_aload_n hx hb dX6_find_39 rfl (lv_at hl 2 rfl) ?_
        refine va_get (D := (dC, dI)) (ci := 6) (v := .ref q1) (C := RX6) (T := TX6) (N := 12) hx hb hts in_X6 hown hK hP 0 rfl rfl 7 (Nat.le_of_ble_eq_true rfl) (hts (.fieldLink RX6 26 "TextMender$Parting" "leastCost" "[I") (List.mem_of_getElem? (i := 6) rfl)) (fun _ h9 => h9) rfl dX6_find_40 ?_
        refine lv_iload hx hb dX6_find_43 (lv_at hl 0 rfl) ?_
        refine lv_iconst (v := (-1)) hx hb dX6_find_45 (by decide) ?_
        obtain ⟨f_7, ef_7⟩ : ∃ g : Nat → Int32, g = upd fq1b (fr : Int32).toNatClampNeg (-1) := ⟨_, rfl⟩
        refine va_iast hx hb hK hP hD hS 1 0 rfl rfl (v_in (by omega)) dX6_find_46 (kWf (g := f_7) (F := fun f_7 => [(oQ, .inr (6, [.ref oC, .ref oH, .ref oK, .ref oE, .ref nq, .ref np, .ref nv, .ref q1, .ref q2, .ref q3, .ref q4, .int pe])), (q1, .inl (cI, 61, .inl f_7)), (q2, .inl (cI, 61, .inl fq2b)), (q3, .inl (cI, 61, .inl fq3b)), (q4, .inl (cI, 61, .inl fq4b)), (nq, .inr (5, [.ref aq, .int lqb])), (aq, .inl (cI, 480, .inl fqb)), (oE, .inr (8, [.ref oC, .ref oK, .int reb, .int lab, .int sub, .int leb])), (oH, .inr (4, [.ref oP, .ref h1, .ref h2, .int lH])), (h1, .inl (cI, 6, .inl fH1)), (h2, .inl (cI, 6, .inl fH2)), (oC, .inr (2, [.ref o4, .ref o5])), (o4, .inr (10, [.ref a41, .ref a42, .ref a43, .int l4])), (a41, .inl (cI, 256, .inl f41)), (a42, .inl (cI, 512, .inl f42)), (a43, .inl (cI, 512, .inl f43)), (o5, .inr (10, [.ref a51, .ref a52, .ref a53, .int l5])), (a51, .inl (cI, 256, .inl f51)), (a52, .inl (cI, 512, .inl f52)), (a53, .inl (cI, 512, .inl f53)), (oK, .inr (3, [.ref k1, .ref k2, .int lK])), (k1, .inl (cI, 1024, .inl fK1)), (k2, .inl (cI, 1024, .inl fK2)), (nx, .inr (5, [.ref ax, .int lx])), (ax, .inl (cI, 300, .inl fx))]) ef_7 rfl (fun H locs hPn hDn hSn => ?_))
        clear hP hD hS
        have hP := hPn
        have hD := hDn
        have hS := hSn
        clear hPn hDn hSn
        refine lv_aload_n hx hb dX6_find_47 rfl (lv_at hl 2 rfl) ?_
        refine lv_iload hx hb dX6_find_48 (lv_at hl 0 rfl) ?_
        refine lv_aload_n hx hb dX6_find_50 rfl (lv_at hl 3 rfl) ?_
        refine lv_iload_n hx hb dX6_find_51 rfl (lv_at hl 1 rfl) ?_
        refine kV_v (rest := []) (q0 := 0) (ci := 6) hcf (f_X6_tryAsItIs l dC dI cI cS H.size oQ nx oC oH oK oE nq np nv q1 q2 q3 q4 k1 k2 ax pe f_7 fq2b fq3b fq4b lK fK1 fK2 lx fx fr lx (g_pe) (g_lK) (g_lx) (by omega) (by omega) (by omega) (by omega) (hlt) (QOK_u hqk9 (by omega) (Or.inl ef_7) (Or.inr rfl) (b := 0)) (by rw [ef_7, pk_us]) (hT) (ho) (hV)) kc_X6_tryAsItIs gX6_find_X6_tryAsItIs rfl rfl rfl ⟨Nat.le_of_ble_eq_true rfl, Nat.le_of_ble_eq_true rfl⟩ kX_t hK hP hD hS hA (posT mk_57 0) (posF mk_57 0) (kC_of mk_57 rfl rfl) (by decide +kernel) rfl rfl rfl hl rfl (Nat.le_of_ble_eq_true rfl) dX6_find_52 ⟨Nat.le_of_ble_eq_true rfl, Nat.le_of_ble_eq_true rfl⟩ (fun H locs hB hJ hSn => ?_)
        refine hB _ (fun fQ1_8 fQ2_8 fQ3_8 fQ4_8 hPD9 hf8_0 hf8_1 hf8_2 => ?_)
        clear hB
        obtain ⟨hPn, hDn⟩ := kJi (m := mk_57) hJ rfl hPD9.1 hPD9.2 (wn := [(oQ, .inr (6, [.ref oC, .ref oH, .ref oK, .ref oE, .ref nq, .ref np, .ref nv, .ref q1, .ref q2, .ref q3, .ref q4, .int pe])), (q1, .inl (cI, 61, .inl fQ1_8)), (q2, .inl (cI, 61, .inl fQ2_8)), (q3, .inl (cI, 61, .inl fQ3_8)), (q4, .inl (cI, 61, .inl fQ4_8)), (nq, .inr (5, [.ref aq, .int lqb])), (aq, .inl (cI, 480, .inl fqb)), (oE, .inr (8, [.ref oC, .ref oK, .int reb, .int lab, .int sub, .int leb])), (oH, .inr (4, [.ref oP, .ref h1, .ref h2, .int lH])), (h1, .inl (cI, 6, .inl fH1)), (h2, .inl (cI, 6, .inl fH2)), (oC, .inr (2, [.ref o4, .ref o5])), (o4, .inr (10, [.ref a41, .ref a42, .ref a43, .int l4])), (a41, .inl (cI, 256, .inl f41)), (a42, .inl (cI, 512, .inl f42)), (a43, .inl (cI, 512, .inl f43)), (o5, .inr (10, [.ref a51, .ref a52, .ref a53, .int l5])), (a51, .inl (cI, 256, .inl f51)), (a52, .inl (cI, 512, .inl f52)), (a53, .inl (cI, 512, .inl f53)), (oK, .inr (3, [.ref k1, .ref k2, .int lK])), (k1, .inl (cI, 1024, .inl fK1)), (k2, .inl (cI, 1024, .inl fK2)), (nx, .inr (5, [.ref ax, .int lx])), (ax, .inl (cI, 300, .inl fx))]) rfl
        clear hP hD hS hJ hPD9
        have hP := hPn
        have hD := hDn
        have hS := hSn
        clear hPn hDn hSn
        refine lv_iconst (v := 0) hx hb dX6_find_55 (by decide) ?_
        refine lv_istore (lv' := [(5, .int 0), (4, .int fr), (3, .int lx), (0, .ref oQ), (1, .ref nx), (2, .int pe)]) hx hb dX6_find_56 hl (by decide) rfl (fun ls hl => ?_)
        have LOOP_58 : ∀ (k_58 : Nat) (h : Int32) (rec : Int32) (lac : Int32) (suc : Int32) (lec : Int32) (lqc : Int32) (fq1c : Nat → Int32) (fq2c : Nat → Int32) (fq3c : Nat → Int32) (fq4c : Nat → Int32) (fqc : Nat → Int32) (H : Heap) (locs : List Loc) (ls : Array Slot), MSd (6 - h.toInt : Int) k_58 → (0 ≤ h.toInt ∧ h.toInt ≤ 6) → (0 ≤ lqc.toInt ∧ lqc.toInt ≤ 480) → (h.toInt ≤ lH.toInt) → (QOK (lx.toNatClampNeg : Int) (fr.toNatClampNeg : Int) fq1c fq2c) → (onlyI fr.toNatClampNeg fq1b fq1c fq2b fq2c fq3b fq3c fq4b fq4c) → (BFS (UC fH1 fH2 f41 f42 f43 f51 f52 f53) (tcC fK1 fK2) lH.toNatClampNeg lx.toNatClampNeg fx pe.toInt (fun _ h2 => h2 < h.toInt) fr.toNatClampNeg fq1c fq2c fq3c fq4c) → va_P (dC, dI) vwCl [(oQ, .inr (6, [.ref oC, .ref oH, .ref oK, .ref oE, .ref nq, .ref np, .ref nv, .ref q1, .ref q2, .ref q3, .ref q4, .int pe])), (q1, .inl (cI, 61, .inl fq1c)), (q2, .inl (cI, 61, .inl fq2c)), (q3, .inl (cI, 61, .inl fq3c)), (q4, .inl (cI, 61, .inl fq4c)), (nq, .inr (5, [.ref aq, .int lqc])), (aq, .inl (cI, 480, .inl fqc)), (oE, .inr (8, [.ref oC, .ref oK, .int rec, .int lac, .int suc, .int lec])), (oH, .inr (4, [.ref oP, .ref h1, .ref h2, .int lH])), (h1, .inl (cI, 6, .inl fH1)), (h2, .inl (cI, 6, .inl fH2)), (oC, .inr (2, [.ref o4, .ref o5])), (o4, .inr (10, [.ref a41, .ref a42, .ref a43, .int l4])), (a41, .inl (cI, 256, .inl f41)), (a42, .inl (cI, 512, .inl f42)), (a43, .inl (cI, 512, .inl f43)), (o5, .inr (10, [.ref a51, .ref a52, .ref a53, .int l5])), (a51, .inl (cI, 256, .inl f51)), (a52, .inl (cI, 512, .inl f52)), (a53, .inl (cI, 512, .inl f53)), (oK, .inr (3, [.ref k1, .ref k2, .int lK])), (k1, .inl (cI, 1024, .inl fK1)), (k2, .inl (cI, 1024, .inl fK2)), (nx, .inr (5, [.ref ax, .int lx])), (ax, .inl (cI, 300, .inl fx))] H → va_D A [(oQ, .inr (6, [.ref oC, .ref oH, .ref oK, .ref oE, .ref nq, .ref np, .ref nv, .ref q1, .ref q2, .ref q3, .ref q4, .int pe])), (q1, .inl (cI, 61, .inl fq1c)), (q2, .inl (cI, 61, .inl fq2c)), (q3, .inl (cI, 61, .inl fq3c)), (q4, .inl (cI, 61, .inl fq4c)), (nq, .inr (5, [.ref aq, .int lqc])), (aq, .inl (cI, 480, .inl fqc)), (oE, .inr (8, [.ref oC, .ref oK, .int rec, .int lac, .int suc, .int lec])), (oH, .inr (4, [.ref oP, .ref h1, .ref h2, .int lH])), (h1, .inl (cI, 6, .inl fH1)), (h2, .inl (cI, 6, .inl fH2)), (oC, .inr (2, [.ref o4, .ref o5])), (o4, .inr (10, [.ref a41, .ref a42, .ref a43, .int l4])), (a41, .inl (cI, 256, .inl f41)), (a42, .inl (cI, 512, .inl f42)), (a43, .inl (cI, 512, .inl f43)), (o5, .inr (10, [.ref a51, .ref a52, .ref a53, .int l5])), (a51, .inl (cI, 256, .inl f51)), (a52, .inl (cI, 512, .inl f52)), (a53, .inl (cI, 512, .inl f53)), (oK, .inr (3, [.ref k1, .ref k2, .int lK])), (k1, .inl (cI, 1024, .inl fK1)), (k2, .inl (cI, 1024, .inl fK2)), (nx, .inr (5, [.ref ax, .int lx])), (ax, .inl (cI, 300, .inl fx))] → va_S A s.heap H locs → lv_has ls 6 [(5, .int h), (4, .int fr), (3, .int lx), (0, .ref oQ), (1, .ref nx), (2, .int pe)] → W p l e (headSpec wsX6_find ({ frames := 6, cells := 0, slots := 0, locals := 149 } : Room)).room s m ([.ref oQ, .ref nx, .int pe] : List Value).toArray below meth c H locs 0 0 (MQ below QQ ([.ref oQ, .ref nx, .int pe] : List Value).toArray s 0 0 A) (F0 m 58 ls []) := by
          clear hP hD hS hl
          try (clear g_lqb)
          intro k_58
          induction k_58 with
          | zero =>
            intro h rec lac suc lec lqc fq1c fq2c fq3c fq4c fqc H locs ls hm_58 g_h g_lqc hhl hqc hoc hbc hP hD hS hl
            exact ms_0 hm_58
          | succ k_58 ih_58 =>
            intro h rec lac suc lec lqc fq1c fq2c fq3c fq4c fqc H locs ls hm_58 g_h g_lqc hhl hqc hoc hbc hP hD hS hl
            refine lv_iload hx hb dX6_find_58 (lv_at hl 0 rfl) ?_
            refine lv_aload_n hx hb dX6_find_60 rfl (lv_at hl 3 rfl) ?_
            refine va_get (D := (dC, dI)) (ci := 6) (v := .ref oH) (C := RX6) (T := TX6) (N := 12) hx hb hts in_X6 hown hK hP 0 rfl rfl 1 (Nat.le_of_ble_eq_true rfl) (hts (.fieldLink RX6 43 "TextMender$Parting" "harms" "LTextMender$Harms;") (List.mem_of_getElem? (i := 8) rfl)) (fun _ h9 => h9) rfl dX6_find_61 ?_
            refine kV_i (rest := [.int h]) (q0 := 0) (ci := 4) hcf (m_X4_length l dC dI cI cS H.size oH oP h1 h2 lH (g_lH)) kc_X4_length gX6_find_X4_length rfl rfl rfl ⟨Nat.le_of_ble_eq_true rfl, Nat.le_of_ble_eq_true rfl⟩ kX_t hK hP hD hS hA (posT mk_58 0) (posF mk_58 0) (kC_of mk_58 rfl rfl) (by decide +kernel) rfl rfl rfl hl rfl (Nat.le_of_ble_eq_true rfl) dX6_find_64 ⟨Nat.le_of_ble_eq_true rfl, Nat.le_of_ble_eq_true rfl⟩ (fun r_9 H locs hB hJ hSn => ?_)
            refine hB _ (fun hPD9 hf9_0 => ?_)
            clear hB
            obtain ⟨hPn, hDn⟩ := kJi (m := mk_58) hJ rfl hPD9.1 hPD9.2 (wn := [(oQ, .inr (6, [.ref oC, .ref oH, .ref oK, .ref oE, .ref nq, .ref np, .ref nv, .ref q1, .ref q2, .ref q3, .ref q4, .int pe])), (q1, .inl (cI, 61, .inl fq1c)), (q2, .inl (cI, 61, .inl fq2c)), (q3, .inl (cI, 61, .inl fq3c)), (q4, .inl (cI, 61, .inl fq4c)), (nq, .inr (5, [.ref aq, .int lqc])), (aq, .inl (cI, 480, .inl fqc)), (oE, .inr (8, [.ref oC, .ref oK, .int rec, .int lac, .int suc, .int lec])), (oH, .inr (4, [.ref oP, .ref h1, .ref h2, .int lH])), (h1, .inl (cI, 6, .inl fH1)), (h2, .inl (cI, 6, .inl fH2)), (oC, .inr (2, [.ref o4, .ref o5])), (o4, .inr (10, [.ref a41, .ref a42, .ref a43, .int l4])), (a41, .inl (cI, 256, .inl f41)), (a42, .inl (cI, 512, .inl f42)), (a43, .inl (cI, 512, .inl f43)), (o5, .inr (10, [.ref a51, .ref a52, .ref a53, .int l5])), (a51, .inl (cI, 256, .inl f51)), (a52, .inl (cI, 512, .inl f52)), (a53, .inl (cI, 512, .inl f53)), (oK, .inr (3, [.ref k1, .ref k2, .int lK])), (k1, .inl (cI, 1024, .inl fK1)), (k2, .inl (cI, 1024, .inl fK2)), (nx, .inr (5, [.ref ax, .int lx])), (ax, .inl (cI, 300, .inl fx))]) rfl
            clear hP hD hS hJ hPD9
            have hP := hPn
            have hD := hDn
            have hS := hSn
            clear hPn hDn hSn
            rw [hf9_0]
            refine lv_icmp_ge (tgt := 86) hx hb dX6_find_67 (by decide) (fun c_10 => ?_) (fun c_10 => ?_)
            · have tc_10 : lH.toInt ≤ h.toInt := v_le c_10
              obtain ⟨x_11, ex_11⟩ : ∃ y : Int32, y = fr + (-1) := ⟨_, rfl⟩
              have tx_11 : x_11.toInt = fr.toInt + (-1) := v_addR (l2 := (-1)) (h2 := (-1)) ex_11 g_fr (by decide) (by decide) (by decide)
              refine lv_iinc (v := x_11) (lv' := [(4, .int x_11), (5, .int h), (3, .int lx), (0, .ref oQ), (1, .ref nx), (2, .int pe)]) hx hb dX6_find_86 hl (k := 1) rfl (by rw [ex_11]; rfl) (by decide) rfl (fun ls hl => ?_)
              refine lv_goto (tgt := 34) hx hb dX6_find_89 (by decide) ?_
              exact ih_34 x_11 rec lac suc lec lqc fq1c fq2c fq3c fq4c fqc _ _ _ (ms_lt hm_34 (by show ((x_11.toInt + 1 : Int)) < fr.toInt + 1; omega) (by show (0 : Int) < fr.toInt + 1; omega)) (by show -1 ≤ x_11.toInt ∧ x_11.toInt ≤ 59; omega) (g_lqc) (by show x_11.toInt < lx.toInt; omega) (QOK_dn (i := fr.toNatClampNeg) hqc rfl (by omega) (by omega) ⟨(BFS_all hbc (by omega) (fun j h2 s sp c9 => by have c8 := c9.2.2.2.1; show h2 < h.toInt; omega)).1, (BFS_all hbc (by omega) (fun j h2 s sp c9 => by have c8 := c9.2.2.2.1; show h2 < h.toInt; omega)).2.1, (BFS_all hbc (by omega) (fun j h2 s sp c9 => by have c8 := c9.2.2.2.1; show h2 < h.toInt; omega)).2.2.1, (BFS_all hbc (by omega) (fun j h2 s sp c9 => by have c8 := c9.2.2.2.1; show h2 < h.toInt; omega)).2.2.2.1⟩) (PBK_s (i := fr.toNatClampNeg) (PBK_k hpb (fun k k1 k2 => hoc k (by omega))) (by omega) (by omega) (BFS_all hbc (by omega) (fun j h2 s sp c9 => by have c8 := c9.2.2.2.1; show h2 < h.toInt; omega)).2.2.2.2.1 (BFS_all hbc (by omega) (fun j h2 s sp c9 => by have c8 := c9.2.2.2.1; show h2 < h.toInt; omega)).2.2.2.2.2) hP hD hS (lv_sub hl [0, 2, 3, 4, 5] rfl)
            · have tc_10 : h.toInt < lH.toInt := v_nle c_10
              refine lv_aload_n hx hb dX6_find_70 rfl (lv_at hl 3 rfl) ?_
              refine lv_iload hx hb dX6_find_71 (lv_at hl 0 rfl) ?_
              refine lv_iload hx hb dX6_find_73 (lv_at hl 1 rfl) ?_
              refine lv_aload_n hx hb dX6_find_75 rfl (lv_at hl 4 rfl) ?_
              refine lv_iload_n hx hb dX6_find_76 rfl (lv_at hl 2 rfl) ?_
              refine kV_v (rest := []) (q0 := 0) (ci := 6) hcf (f_X6_tryUndone l dC dI cI cS H.size oQ nx oC oH oK oE nq np nv q1 q2 q3 q4 aq oP h1 h2 o4 o5 a41 a42 a43 a51 a52 a53 k1 k2 ax pe fq1c fq2c fq3c fq4c lqc fqc rec lac suc lec lH fH1 fH2 l4 f41 f42 f43 l5 f51 f52 f53 lK fK1 fK2 lx fx h fr lx (g_pe) (g_lqc) (g_lH) (g_lK) (g_lx) (by omega) (by omega) (by omega) (by omega) (by omega) (hlt) (hqc) (by omega) (hbc) (hT4) (ho4) (hT5) (ho5) (hL4) (hL5) (hBr) (hT) (ho) (hV)) kc_X6_tryUndone gX6_find_X6_tryUndone rfl rfl rfl ⟨Nat.le_of_ble_eq_true rfl, Nat.le_of_ble_eq_true rfl⟩ (kX_1 hN52) hK hP hD hS hA (posT mk_59 0) (posF mk_59 0) (kC_of mk_59 rfl rfl) (by decide +kernel) rfl rfl rfl hl rfl (Nat.le_of_ble_eq_true rfl) dX6_find_77 ⟨Nat.le_of_ble_eq_true rfl, Nat.le_of_ble_eq_true rfl⟩ (fun H locs hB hJ hSn => ?_)
              refine hB _ (fun lq_12 fq_12 reE_12 laE_12 suE_12 leE_12 fQ1_12 fQ2_12 fQ3_12 fQ4_12 hPD9 hf12_0 hf12_1 hf12_2 hf12_3 => ?_)
              clear hB
              obtain ⟨hPn, hDn⟩ := kJi (m := mk_59) hJ rfl hPD9.1 hPD9.2 (wn := [(oQ, .inr (6, [.ref oC, .ref oH, .ref oK, .ref oE, .ref nq, .ref np, .ref nv, .ref q1, .ref q2, .ref q3, .ref q4, .int pe])), (q1, .inl (cI, 61, .inl fQ1_12)), (q2, .inl (cI, 61, .inl fQ2_12)), (q3, .inl (cI, 61, .inl fQ3_12)), (q4, .inl (cI, 61, .inl fQ4_12)), (nq, .inr (5, [.ref aq, .int lq_12])), (aq, .inl (cI, 480, .inl fq_12)), (oE, .inr (8, [.ref oC, .ref oK, .int reE_12, .int laE_12, .int suE_12, .int leE_12])), (oH, .inr (4, [.ref oP, .ref h1, .ref h2, .int lH])), (h1, .inl (cI, 6, .inl fH1)), (h2, .inl (cI, 6, .inl fH2)), (oC, .inr (2, [.ref o4, .ref o5])), (o4, .inr (10, [.ref a41, .ref a42, .ref a43, .int l4])), (a41, .inl (cI, 256, .inl f41)), (a42, .inl (cI, 512, .inl f42)), (a43, .inl (cI, 512, .inl f43)), (o5, .inr (10, [.ref a51, .ref a52, .ref a53, .int l5])), (a51, .inl (cI, 256, .inl f51)), (a52, .inl (cI, 512, .inl f52)), (a53, .inl (cI, 512, .inl f53)), (oK, .inr (3, [.ref k1, .ref k2, .int lK])), (k1, .inl (cI, 1024, .inl fK1)), (k2, .inl (cI, 1024, .inl fK2)), (nx, .inr (5, [.ref ax, .int lx])), (ax, .inl (cI, 300, .inl fx))]) rfl
              clear hP hD hS hJ hPD9
              have hP := hPn
              have hD := hDn
              have hS := hSn
              clear hPn hDn hSn
              obtain ⟨x_13, ex_13⟩ : ∃ y : Int32, y = h + 1 := ⟨_, rfl⟩
              have tx_13 : x_13.toInt = h.toInt + 1 := v_addR (l2 := 1) (h2 := 1) ex_13 g_h (by decide) (by decide) (by decide)
              refine lv_iinc (v := x_13) (lv' := [(5, .int x_13), (4, .int fr), (3, .int lx), (0, .ref oQ), (1, .ref nx), (2, .int pe)]) hx hb dX6_find_80 hl (k := 0) rfl (by rw [ex_13]; rfl) (by decide) rfl (fun ls hl => ?_)
              refine lv_goto (tgt := 58) hx hb dX6_find_83 (by decide) ?_
              exact ih_58 x_13 reE_12 laE_12 suE_12 leE_12 lq_12 fQ1_12 fQ2_12 fQ3_12 fQ4_12 fq_12 _ _ _ (ms_lt hm_58 (by show ((6 - x_13.toInt : Int)) < 6 - h.toInt; omega) (by show (0 : Int) < 6 - h.toInt; omega)) (by show 0 ≤ x_13.toInt ∧ x_13.toInt ≤ 6; omega) (hf12_0) (by show x_13.toInt ≤ lH.toInt; omega) (hf12_1) (only_t hoc hf12_2) (BFS_A hf12_3 (fun j h2 s sp c9 => by show h2 < x_13.toInt ↔ h2 < h.toInt + 1; omega)) hP hD hS (lv_sub hl [0, 1, 2, 3, 4, 5] rfl)
        exact LOOP_58 _ 0 reb lab sub leb lqb fQ1_8 fQ2_8 fQ3_8 fQ4_8 fqb _ _ _ (ms_s _) (by decide) (g_lqb) (by show 0 ≤ lH.toInt; omega) (hf8_0) (only_t (fun k9 hk9 => ⟨by rw [ef_7, pk_un hk9], rfl, rfl, rfl⟩) hf8_1) (BFS_A (hf8_2 (UC fH1 fH2 f41 f42 f43 f51 f52 f53) lH.toNatClampNeg okU9) (fun j h2 s sp c9 => by have c8 := c9.2.2.1; show h2 < (0 : Int) ↔ h2 = -1; omega)) hP hD hS (lv_sub hl [0, 1, 2, 3, 4, 5] rfl)
  exact LOOP_34 _ x_5 reE laE suE leE lq f_3 f_4 fQ3 fQ4 fq _ _ _ (ms_s _) (by show -1 ≤ x_5.toInt ∧ x_5.toInt ≤ 59; omega) (g_lq) (by show x_5.toInt < lx.toInt; omega) (QOK_0 ef_3 ef_4 rfl (by omega)) (fun i h1 h2 => absurd h2 (by omega)) hP hD hS (lv_sub hl [0, 1, 2, 3, 4] rfl)

end

/-! 5b.a.rows -/
section
set_option maxRecDepth 100000 in
theorem dA298_cX6_build : kDec cX6_build [(0, .aload_n 2, 1), (1, .iconst 0, 1), (2, .invokevirtual 101, 3), (5, .aload_n 1, 1), (6, .invokevirtual 64, 3), (9, .bipush 60, 2), (11, .invokestatic 68, 3), (14, .istore_n 3, 1), (15, .iconst 0, 1), (16, .istore 4, 2), (18, .iload 4, 2), (20, .iload_n 3, 1), (21, .if_icmp .ge 132, 3), (153, .iconst 1, 1), (154, .ireturn, 1), (24, .aload_n 0, 1), (25, .getfield 20, 3), (28, .iconst 0, 1), (29, .invokevirtual 101, 3), (32, .iload 4, 2), (34, .istore 5, 2), (36, .iload 5, 2), (38, .aload_n 0, 1), (39, .getfield 33, 3)] = true := by decide +kernel
theorem dX6_build_0 : decode cX6_build 0 = .ok (.aload_n 2, 1) := kDec_at dA298_cX6_build 0 rfl
theorem dX6_build_1 : decode cX6_build 1 = .ok (.iconst 0, 1) := kDec_at dA298_cX6_build 1 rfl
theorem dX6_build_2 : decode cX6_build 2 = .ok (.invokevirtual 101, 3) := kDec_at dA298_cX6_build 2 rfl
theorem dX6_build_5 : decode cX6_build 5 = .ok (.aload_n 1, 1) := kDec_at dA298_cX6_build 3 rfl
theorem dX6_build_6 : decode cX6_build 6 = .ok (.invokevirtual 64, 3) := kDec_at dA298_cX6_build 4 rfl
theorem dX6_build_9 : decode cX6_build 9 = .ok (.bipush 60, 2) := kDec_at dA298_cX6_build 5 rfl
theorem dX6_build_11 : decode cX6_build 11 = .ok (.invokestatic 68, 3) := kDec_at dA298_cX6_build 6 rfl
theorem dX6_build_14 : decode cX6_build 14 = .ok (.istore_n 3, 1) := kDec_at dA298_cX6_build 7 rfl
theorem dX6_build_15 : decode cX6_build 15 = .ok (.iconst 0, 1) := kDec_at dA298_cX6_build 8 rfl
theorem dX6_build_16 : decode cX6_build 16 = .ok (.istore 4, 2) := kDec_at dA298_cX6_build 9 rfl
theorem dX6_build_18 : decode cX6_build 18 = .ok (.iload 4, 2) := kDec_at dA298_cX6_build 10 rfl
theorem dX6_build_20 : decode cX6_build 20 = .ok (.iload_n 3, 1) := kDec_at dA298_cX6_build 11 rfl
theorem dX6_build_21 : decode cX6_build 21 = .ok (.if_icmp .ge 132, 3) := kDec_at dA298_cX6_build 12 rfl
theorem dX6_build_153 : decode cX6_build 153 = .ok (.iconst 1, 1) := kDec_at dA298_cX6_build 13 rfl
theorem dX6_build_154 : decode cX6_build 154 = .ok (.ireturn, 1) := kDec_at dA298_cX6_build 14 rfl
theorem dX6_build_24 : decode cX6_build 24 = .ok (.aload_n 0, 1) := kDec_at dA298_cX6_build 15 rfl
theorem dX6_build_25 : decode cX6_build 25 = .ok (.getfield 20, 3) := kDec_at dA298_cX6_build 16 rfl
theorem dX6_build_28 : decode cX6_build 28 = .ok (.iconst 0, 1) := kDec_at dA298_cX6_build 17 rfl
theorem dX6_build_29 : decode cX6_build 29 = .ok (.invokevirtual 101, 3) := kDec_at dA298_cX6_build 18 rfl
theorem dX6_build_32 : decode cX6_build 32 = .ok (.iload 4, 2) := kDec_at dA298_cX6_build 19 rfl
theorem dX6_build_34 : decode cX6_build 34 = .ok (.istore 5, 2) := kDec_at dA298_cX6_build 20 rfl
theorem dX6_build_36 : decode cX6_build 36 = .ok (.iload 5, 2) := kDec_at dA298_cX6_build 21 rfl
theorem dX6_build_38 : decode cX6_build 38 = .ok (.aload_n 0, 1) := kDec_at dA298_cX6_build 22 rfl
theorem dX6_build_39 : decode cX6_build 39 = .ok (.getfield 33, 3) := kDec_at dA298_cX6_build 23 rfl
set_option maxRecDepth 20000 in
theorem ggX6_build_X5_cut : GoodIn wsX6_build wsX5_cut := goodIn_sub (fun _ h => List.mem_cons_of_mem _ (List.mem_append_left _ (List.mem_append_left _ (List.mem_append_left _ (List.mem_append_left _ (List.mem_append_left _ (List.mem_append_left _ (List.mem_append_right _ (h))))))))) gX5_cut_all
set_option maxRecDepth 20000 in
theorem gX6_build_X5_cut : GoodIn wsX6_build (wsV RX6 101 RX5 yX5_cut wsX5_cut) := goodIn_app (goodIn_r _ [13, 14, 15, 16] rfl (by decide +kernel)) ggX6_build_X5_cut
set_option maxRecDepth 20000 in
theorem ggX6_build_X5_length : GoodIn wsX6_build wsX5_length := goodIn_sub (fun _ h => List.mem_cons_of_mem _ (List.mem_append_left _ (List.mem_append_left _ (List.mem_append_left _ (List.mem_append_left _ (List.mem_append_left _ (List.mem_append_right _ (h)))))))) gX5_length_all
set_option maxRecDepth 20000 in
theorem gX6_build_X5_length : GoodIn wsX6_build (wsV RX6 64 RX5 yX5_length wsX5_length) := goodIn_app (goodIn_r _ [17, 18, 19, 16] rfl (by decide +kernel)) ggX6_build_X5_length
set_option maxRecDepth 100000 in
theorem dA299_cX6_build : kDec cX6_build [(42, .iload 4, 2), (44, .iaload, 1), (45, .if_icmp .ge 23, 3), (68, .aload_n 0, 1), (69, .getfield 36, 3), (72, .iload 4, 2), (74, .iaload, 1), (75, .iconst (-1), 1), (76, .if_icmp .ne 18, 3), (94, .aload_n 0, 1), (95, .getfield 43, 3), (98, .aload_n 0, 1), (99, .getfield 36, 3), (102, .iload 4, 2), (104, .iaload, 1), (105, .aload_n 0, 1), (106, .getfield 20, 3), (109, .aload_n 0, 1), (110, .getfield 23, 3), (113, .invokevirtual 140, 3), (116, .ifCond .ne 5, 3), (121, .aload_n 2, 1), (122, .aload_n 0, 1), (123, .getfield 23, 3)] = true := by decide +kernel
theorem dX6_build_42 : decode cX6_build 42 = .ok (.iload 4, 2) := kDec_at dA299_cX6_build 0 rfl
theorem dX6_build_44 : decode cX6_build 44 = .ok (.iaload, 1) := kDec_at dA299_cX6_build 1 rfl
theorem dX6_build_45 : decode cX6_build 45 = .ok (.if_icmp .ge 23, 3) := kDec_at dA299_cX6_build 2 rfl
theorem dX6_build_68 : decode cX6_build 68 = .ok (.aload_n 0, 1) := kDec_at dA299_cX6_build 3 rfl
theorem dX6_build_69 : decode cX6_build 69 = .ok (.getfield 36, 3) := kDec_at dA299_cX6_build 4 rfl
theorem dX6_build_72 : decode cX6_build 72 = .ok (.iload 4, 2) := kDec_at dA299_cX6_build 5 rfl
theorem dX6_build_74 : decode cX6_build 74 = .ok (.iaload, 1) := kDec_at dA299_cX6_build 6 rfl
theorem dX6_build_75 : decode cX6_build 75 = .ok (.iconst (-1), 1) := kDec_at dA299_cX6_build 7 rfl
theorem dX6_build_76 : decode cX6_build 76 = .ok (.if_icmp .ne 18, 3) := kDec_at dA299_cX6_build 8 rfl
theorem dX6_build_94 : decode cX6_build 94 = .ok (.aload_n 0, 1) := kDec_at dA299_cX6_build 9 rfl
theorem dX6_build_95 : decode cX6_build 95 = .ok (.getfield 43, 3) := kDec_at dA299_cX6_build 10 rfl
theorem dX6_build_98 : decode cX6_build 98 = .ok (.aload_n 0, 1) := kDec_at dA299_cX6_build 11 rfl
theorem dX6_build_99 : decode cX6_build 99 = .ok (.getfield 36, 3) := kDec_at dA299_cX6_build 12 rfl
theorem dX6_build_102 : decode cX6_build 102 = .ok (.iload 4, 2) := kDec_at dA299_cX6_build 13 rfl
theorem dX6_build_104 : decode cX6_build 104 = .ok (.iaload, 1) := kDec_at dA299_cX6_build 14 rfl
theorem dX6_build_105 : decode cX6_build 105 = .ok (.aload_n 0, 1) := kDec_at dA299_cX6_build 15 rfl
theorem dX6_build_106 : decode cX6_build 106 = .ok (.getfield 20, 3) := kDec_at dA299_cX6_build 16 rfl
theorem dX6_build_109 : decode cX6_build 109 = .ok (.aload_n 0, 1) := kDec_at dA299_cX6_build 17 rfl
theorem dX6_build_110 : decode cX6_build 110 = .ok (.getfield 23, 3) := kDec_at dA299_cX6_build 18 rfl
theorem dX6_build_113 : decode cX6_build 113 = .ok (.invokevirtual 140, 3) := kDec_at dA299_cX6_build 19 rfl
theorem dX6_build_116 : decode cX6_build 116 = .ok (.ifCond .ne 5, 3) := kDec_at dA299_cX6_build 20 rfl
theorem dX6_build_121 : decode cX6_build 121 = .ok (.aload_n 2, 1) := kDec_at dA299_cX6_build 21 rfl
theorem dX6_build_122 : decode cX6_build 122 = .ok (.aload_n 0, 1) := kDec_at dA299_cX6_build 22 rfl
theorem dX6_build_123 : decode cX6_build 123 = .ok (.getfield 23, 3) := kDec_at dA299_cX6_build 23 rfl
set_option maxRecDepth 20000 in
theorem ggX6_build_X4_takeOff : GoodIn wsX6_build wsX4_takeOff := goodIn_sub (fun _ h => List.mem_cons_of_mem _ (List.mem_append_left _ (List.mem_append_right _ (h)))) gX4_takeOff_all
set_option maxRecDepth 20000 in
theorem gX6_build_X4_takeOff : GoodIn wsX6_build (wsV RX6 140 RX4 yX4_takeOff wsX4_takeOff) := goodIn_app (goodIn_r _ [31, 32, 33, 34] rfl (by decide +kernel)) ggX6_build_X4_takeOff
set_option maxRecDepth 20000 in
theorem ggX6_build_X5_addAll : GoodIn wsX6_build wsX5_addAll := goodIn_sub (fun _ h => List.mem_cons_of_mem _ (List.mem_append_right _ (h))) gX5_addAll_all
set_option maxRecDepth 20000 in
theorem gX6_build_X5_addAll : GoodIn wsX6_build (wsV RX6 144 RX5 yX5_addAll wsX5_addAll) := goodIn_app (goodIn_r _ [35, 29, 30, 16] rfl (by decide +kernel)) ggX6_build_X5_addAll
set_option maxRecDepth 100000 in
theorem dA300_cX6_build : kDec cX6_build [(126, .invokevirtual 144, 3), (129, .ifCond .ne 5, 3), (134, .iload 4, 2), (136, .iconst 1, 1), (137, .iadd, 1), (138, .aload_n 0, 1), (139, .getfield 33, 3), (142, .iload 4, 2), (144, .iaload, 1), (145, .invokestatic 147, 3), (148, .istore 4, 2), (150, .goto (-132), 3), (132, .iconst 0, 1), (133, .ireturn, 1), (119, .iconst 0, 1), (120, .ireturn, 1), (79, .aload_n 0, 1), (80, .getfield 23, 3), (83, .aload_n 0, 1), (84, .getfield 20, 3), (87, .invokevirtual 136, 3), (90, .pop, 1), (91, .goto 30, 3), (48, .aload_n 0, 1)] = true := by decide +kernel
theorem dX6_build_126 : decode cX6_build 126 = .ok (.invokevirtual 144, 3) := kDec_at dA300_cX6_build 0 rfl
theorem dX6_build_129 : decode cX6_build 129 = .ok (.ifCond .ne 5, 3) := kDec_at dA300_cX6_build 1 rfl
theorem dX6_build_134 : decode cX6_build 134 = .ok (.iload 4, 2) := kDec_at dA300_cX6_build 2 rfl
theorem dX6_build_136 : decode cX6_build 136 = .ok (.iconst 1, 1) := kDec_at dA300_cX6_build 3 rfl
theorem dX6_build_137 : decode cX6_build 137 = .ok (.iadd, 1) := kDec_at dA300_cX6_build 4 rfl
theorem dX6_build_138 : decode cX6_build 138 = .ok (.aload_n 0, 1) := kDec_at dA300_cX6_build 5 rfl
theorem dX6_build_139 : decode cX6_build 139 = .ok (.getfield 33, 3) := kDec_at dA300_cX6_build 6 rfl
theorem dX6_build_142 : decode cX6_build 142 = .ok (.iload 4, 2) := kDec_at dA300_cX6_build 7 rfl
theorem dX6_build_144 : decode cX6_build 144 = .ok (.iaload, 1) := kDec_at dA300_cX6_build 8 rfl
theorem dX6_build_145 : decode cX6_build 145 = .ok (.invokestatic 147, 3) := kDec_at dA300_cX6_build 9 rfl
theorem dX6_build_148 : decode cX6_build 148 = .ok (.istore 4, 2) := kDec_at dA300_cX6_build 10 rfl
theorem dX6_build_150 : decode cX6_build 150 = .ok (.goto (-132), 3) := kDec_at dA300_cX6_build 11 rfl
theorem dX6_build_132 : decode cX6_build 132 = .ok (.iconst 0, 1) := kDec_at dA300_cX6_build 12 rfl
theorem dX6_build_133 : decode cX6_build 133 = .ok (.ireturn, 1) := kDec_at dA300_cX6_build 13 rfl
theorem dX6_build_119 : decode cX6_build 119 = .ok (.iconst 0, 1) := kDec_at dA300_cX6_build 14 rfl
theorem dX6_build_120 : decode cX6_build 120 = .ok (.ireturn, 1) := kDec_at dA300_cX6_build 15 rfl
theorem dX6_build_79 : decode cX6_build 79 = .ok (.aload_n 0, 1) := kDec_at dA300_cX6_build 16 rfl
theorem dX6_build_80 : decode cX6_build 80 = .ok (.getfield 23, 3) := kDec_at dA300_cX6_build 17 rfl
theorem dX6_build_83 : decode cX6_build 83 = .ok (.aload_n 0, 1) := kDec_at dA300_cX6_build 18 rfl
theorem dX6_build_84 : decode cX6_build 84 = .ok (.getfield 20, 3) := kDec_at dA300_cX6_build 19 rfl
theorem dX6_build_87 : decode cX6_build 87 = .ok (.invokevirtual 136, 3) := kDec_at dA300_cX6_build 20 rfl
theorem dX6_build_90 : decode cX6_build 90 = .ok (.pop, 1) := kDec_at dA300_cX6_build 21 rfl
theorem dX6_build_91 : decode cX6_build 91 = .ok (.goto 30, 3) := kDec_at dA300_cX6_build 22 rfl
theorem dX6_build_48 : decode cX6_build 48 = .ok (.aload_n 0, 1) := kDec_at dA300_cX6_build 23 rfl
set_option maxRecDepth 20000 in
theorem ggX6_build_X5_takeAll : GoodIn wsX6_build wsX5_takeAll := goodIn_sub (fun _ h => List.mem_cons_of_mem _ (List.mem_append_left _ (List.mem_append_left _ (List.mem_append_right _ (h))))) gX5_takeAll_all
set_option maxRecDepth 20000 in
theorem gX6_build_X5_takeAll : GoodIn wsX6_build (wsV RX6 136 RX5 yX5_takeAll wsX5_takeAll) := goodIn_app (goodIn_r _ [26, 27, 28, 16] rfl (by decide +kernel)) ggX6_build_X5_takeAll
set_option maxRecDepth 100000 in
theorem dA301_cX6_build : kDec cX6_build [(49, .getfield 20, 3), (52, .aload_n 1, 1), (53, .iload 5, 2), (55, .invokevirtual 85, 3), (58, .invokevirtual 132, 3), (61, .pop, 1), (62, .iinc 5 1, 3), (65, .goto (-29), 3)] = true := by decide +kernel
theorem dX6_build_49 : decode cX6_build 49 = .ok (.getfield 20, 3) := kDec_at dA301_cX6_build 0 rfl
theorem dX6_build_52 : decode cX6_build 52 = .ok (.aload_n 1, 1) := kDec_at dA301_cX6_build 1 rfl
theorem dX6_build_53 : decode cX6_build 53 = .ok (.iload 5, 2) := kDec_at dA301_cX6_build 2 rfl
theorem dX6_build_55 : decode cX6_build 55 = .ok (.invokevirtual 85, 3) := kDec_at dA301_cX6_build 3 rfl
theorem dX6_build_58 : decode cX6_build 58 = .ok (.invokevirtual 132, 3) := kDec_at dA301_cX6_build 4 rfl
theorem dX6_build_61 : decode cX6_build 61 = .ok (.pop, 1) := kDec_at dA301_cX6_build 5 rfl
theorem dX6_build_62 : decode cX6_build 62 = .ok (.iinc 5 1, 3) := kDec_at dA301_cX6_build 6 rfl
theorem dX6_build_65 : decode cX6_build 65 = .ok (.goto (-29), 3) := kDec_at dA301_cX6_build 7 rfl
set_option maxRecDepth 20000 in
theorem ggX6_build_X5_get : GoodIn wsX6_build wsX5_get := goodIn_sub (fun _ h => List.mem_cons_of_mem _ (List.mem_append_left _ (List.mem_append_left _ (List.mem_append_left _ (List.mem_append_left _ (List.mem_append_right _ (h))))))) gX5_get_all
set_option maxRecDepth 20000 in
theorem gX6_build_X5_get : GoodIn wsX6_build (wsV RX6 85 RX5 yX5_get wsX5_get) := goodIn_app (goodIn_r _ [20, 21, 22, 16] rfl (by decide +kernel)) ggX6_build_X5_get
set_option maxRecDepth 20000 in
theorem ggX6_build_X5_add : GoodIn wsX6_build wsX5_add := goodIn_sub (fun _ h => List.mem_cons_of_mem _ (List.mem_append_left _ (List.mem_append_left _ (List.mem_append_left _ (List.mem_append_right _ (h)))))) gX5_add_all
set_option maxRecDepth 20000 in
theorem gX6_build_X5_add : GoodIn wsX6_build (wsV RX6 132 RX5 yX5_add wsX5_add) := goodIn_app (goodIn_r _ [23, 24, 25, 16] rfl (by decide +kernel)) ggX6_build_X5_add

end
