/-! choices of the reference -/
def WWI (b : Int32) (Bf : Int32 → Int32) (f : Nat → Int32) (v1 v2 : Int) (i : Nat) (l : Int32) (g : Nat → Int32) (fi : Int32) : Prop := WR (EV b Bf f v1 v2) i l g ∧ ((mkB f i = 0 ∧ fi.toInt = 1) ∨ (1 ≤ mkB f i ∧ fi.toInt = 0))
theorem WW_0 {b l fi : Int32} {Bf : Int32 → Int32} {f g : Nat → Int32} {v1 v2 : Int} {i : Nat} (hi : i = 0) (hl : l.toInt = 0) (h1 : fi.toInt = 1) : WWI b Bf f v1 v2 i l g fi := by
  subst hi
  exact ⟨WR_0 hl, Or.inl ⟨rfl, h1⟩⟩
theorem WW_m {b l l' fi fi' v : Int32} {Bf : Int32 → Int32} {f g g' : Nat → Int32} {v1 v2 : Int} {i i' : Nat} (h : WWI b Bf f v1 v2 i l g fi) (hm : f i = 65533) (e1 : l'.toInt = l.toInt + 1) (e2 : g' = upd g l.toNatClampNeg v) (hv : (fi.toInt = 1 ∧ v.toInt = v1) ∨ (fi.toInt = 0 ∧ v.toInt = v2)) (h0 : 0 ≤ l.toInt) (h1 : fi'.toInt = 0) (ei : i' = i + 1) : WWI b Bf f v1 v2 i' l' g' fi' := by
  subst ei
  obtain ⟨q1, q2⟩ := h
  have eE : EV b Bf f v1 v2 i = [] ++ [v.toInt] := by
    rw [EV_m hm]
    by_cases z : mkB f i = 0
    · rw [if_pos z, show v.toInt = v1 by omega]; rfl
    · rw [if_neg z, show v.toInt = v2 by omega]; rfl
  have ap : AP l l' g g' ([] ++ [v.toInt]) := AP_u AP_0 h0 e1 e2
  refine ⟨WR_s q1 (by rw [eE]; exact List.cons_ne_nil _ _) (by rw [eE]; exact ap), Or.inr ⟨by rw [mkB_y hm]; omega, h1⟩⟩
theorem WW_n {b l l' fi r x B : Int32} {Bf : Int32 → Int32} {f g g' : Nat → Int32} {v1 v2 : Int} {i i' : Nat} (h : WWI b Bf f v1 v2 i l g fi) (hm : ¬ f i = 65533) (ex : x = f i) (eB : B = Bf (f i)) (hf : F_en r b x B l l' g g') (hr : ¬ r.toInt = 0) (ei : i' = i + 1) : WWI b Bf f v1 v2 i' l' g' fi := by
  subst ei
  subst eB
  subst ex
  obtain ⟨q1, q2⟩ := h
  obtain ⟨a1, a2⟩ := F_en_1 hf hr
  have eE := EV_n (b := b) (Bf := Bf) (v1 := v1) (v2 := v2) hm
  refine ⟨WR_s q1 (by rw [eE]; exact a1) (by rw [eE]; exact a2), ?_⟩
  rw [mkB_n hm]; exact q2
def F_ww (r : Int32) (b : Int32) (Bf : Int32 → Int32) (f : Nat → Int32) (v1 v2 : Int) (n : Nat) (l : Int32) (g : Nat → Int32) : Prop := (r.toInt = 1 ∧ WR (EV b Bf f v1 v2) n l g) ∨ (r.toInt = 0 ∧ ∃ i, i < n ∧ EV b Bf f v1 v2 i = [])
theorem WW_f {b l r x B l' l9 q : Int32} {Bf : Int32 → Int32} {f g g' g9 : Nat → Int32} {v1 v2 : Int} {i n : Nat} (hm : ¬ f i = 65533) (ex : x = f i) (eB : B = Bf (f i)) (hf : F_en r b x B l l' g g') (hr : r.toInt = 0) (hq : q.toInt = 0) (hn : i < n) : F_ww q b Bf f v1 v2 n l9 g9 := by
  subst eB
  subst ex
  exact Or.inr ⟨hq, i, hn, by rw [EV_n hm]; exact F_en_0 hf hr⟩
theorem WW_e {b l fi q : Int32} {Bf : Int32 → Int32} {f g : Nat → Int32} {v1 v2 : Int} {i n : Nat} (h : WWI b Bf f v1 v2 i l g fi) (hi : i = n) (hq : q.toInt = 1) : F_ww q b Bf f v1 v2 n l g := by
  subst hi
  exact Or.inl ⟨hq, h.1⟩
theorem EV_e {b : Int32} {Bf : Int32 → Int32} {f : Nat → Int32} {v1 v2 w1 w2 : Int} {i : Nat} (h : EV b Bf f v1 v2 i = []) : EV b Bf f w1 w2 i = [] := by
  by_cases z : f i = 65533
  · rw [EV_m z] at h; exact absurd h (List.cons_ne_nil _ _)
  · rw [EV_n z] at h ⊢; exact h
/-- a byte alone -/
theorem al_ra {r cd x v : Int32} {L4 L5 g : Nat → Int32} {n : Int} {p : Nat} (h : F_ra r cd x L4 L5 g n p) (hn : n = 1) (hp : p = 0) (hv : g 0 = v) : (r.toInt = 0 ∧ alF cd v L4 L5 = -1) ∨ (¬ r.toInt = 0 ∧ ¬ alF cd v L4 L5 = -1) := by
  subst hn
  subst hp
  have o1 : bt g 1 (0 + 1) = -1 := bt_out (by omega)
  have o2 : bt g 1 (0 + 2) = -1 := bt_out (by omega)
  rcases h with ⟨l, h1, h2⟩ | ⟨h1, h2⟩
  · have hp := Dec_pos h2
    obtain ⟨h0, ⟨a1, a2, a3⟩ | ⟨a1, a2⟩ | ⟨a1, a2⟩⟩ := h2
    · rw [hv] at a2
      exact Or.inr ⟨by omega, by rw [a2]; exact a3⟩
    · unfold DMa DM at a2
      omega
    · unfold DNa DN at a2
      omega
  · refine Or.inl ⟨h1, Classical.byContradiction (fun w => ?_)⟩
    exact h2 1 (alF cd v L4 L5) ⟨by omega, Or.inl ⟨rfl, by rw [hv], w⟩⟩
/-- reading in a and writing in a again gives the same bytes -/
theorem wr_rd {a m : Int32} {L4 L5 g w : Nat → Int32} {Bf : Int32 → Int32} {c : Nat} (hb : prg m.toInt 0 255 g) (h4 : prg 256 (-1) 65535 L4) (h5 : prg 256 (-1) 65535 L5) (hL : LBk a L4 L5 Bf) (hr : rdOk (dl a L4 L5 g m.toInt) m.toInt c) (hw : ∀ i, i < c → w i = dx a L4 L5 g m.toInt (psn (dl a L4 L5 g m.toInt) i)) : WR (fun j => enc a (w j) (Bf (w j))) c m g := by
  have tok : ∀ i, i < c → (enc a (w i) (Bf (w i))).length = dl a L4 L5 g m.toInt (psn (dl a L4 L5 g m.toInt) i) ∧ sg g (psn (dl a L4 L5 g m.toInt) i) (enc a (w i) (Bf (w i))) := fun i hi => by
    have q := Dec_en (dl_ex (hr.2 i hi)) hb h4 h5 hL
    rw [← hw i hi] at q
    exact q
  have ps : ∀ i, i ≤ c → psE (fun j => enc a (w j) (Bf (w j))) i = psn (dl a L4 L5 g m.toInt) i := by
    intro i
    induction i with
    | zero => intro _; rfl
    | succ i ih =>
      intro hi
      rw [psE, psn, ih (by omega)]
      show _ + (enc a (w i) (Bf (w i))).length = _
      rw [(tok i (by omega)).1]
  refine ⟨by rw [ps c (Nat.le_refl _)]; exact hr.1.symm, fun j hj => ⟨fun e => ?_, ?_⟩⟩
  · have q := (tok j hj).1
    have e : enc a (w j) (Bf (w j)) = [] := e
    rw [e] at q
    exact hr.2 j hj q.symm
  · show sg g (psE (fun j => enc a (w j) (Bf (w j))) j) (enc a (w j) (Bf (w j)))
    rw [ps j (by omega)]
    exact (tok j hj).2
/-- what isChoice answers -/
def F_ic (r zk : Int32) (eW : Nat → Int32) (a b : Int32) (L4 L5 : Nat → Int32) (Bf : Int32 → Int32) (n : Nat) (f : Nat → Int32) (v1 v2 : Int) : Prop := (r.toInt = 1 ∧ ∃ c : Nat, zk.toInt = c ∧ VCH a b L4 L5 Bf n f v1 v2 c eW) ∨ (r.toInt = 0 ∧ ∀ c f', ¬ VCH a b L4 L5 Bf n f v1 v2 c f')
section CHR
variable {a b m : Int32} {L4 L5 f g : Nat → Int32} {Bf Ba : Int32 → Int32} {n : Nat} {v1 v2 : Int}
theorem ic_w0 {r q zk : Int32} {eW : Nat → Int32} (h : F_ww r b Bf f v1 v2 n m g) (hr : r.toInt = 0) (hq : q.toInt = 0) : F_ic q zk eW a b L4 L5 Bf n f v1 v2 := by
  rcases h with h | ⟨_, i, h1, h2⟩
  · have := h.1
    omega
  · refine Or.inr ⟨hq, fun c f' hv => ?_⟩
    obtain ⟨m', g', a1, _⟩ := hv
    exact (a1.2 i h1).1 h2
theorem ww_1 {r : Int32} (h : F_ww r b Bf f v1 v2 n m g) (hr : ¬ r.toInt = 0) : WR (EV b Bf f v1 v2) n m g := h.elim (fun z => z.2) (fun z => absurd z.1 hr)
theorem ic_no {q zk : Int32} {eW : Nat → Int32} (hw : WR (EV b Bf f v1 v2) n m g) (hf : prg n 0 65535 f) (hB : okB Bf) (hv : byV f n v1 v2) (hq : q.toInt = 0) (h : ∀ c, rdOk (dl a L4 L5 g m.toInt) m.toInt c → c ≤ 300 → ¬ BKB b m L4 L5 g f (EV b Bf f v1 v2) n) : F_ic q zk eW a b L4 L5 Bf n f v1 v2 := by
  refine Or.inr ⟨hq, fun c f' w => ?_⟩
  obtain ⟨m', g', a1, a2, a3, a4, a5⟩ := w
  obtain ⟨q1, q2⟩ := WR_eq a1 hw
  subst q1
  have hb := WRV_b a1 hf hB hv
  have e1 := dl_congr (cd := a) (L4 := L4) (L5 := L5) q2 (fun _ _ => rfl) (fun _ _ => rfl) hb
  have e3 := dl_congr (cd := b) (L4 := L4) (L5 := L5) q2 (fun _ _ => rfl) (fun _ _ => rfl) hb
  rw [e1] at a3
  exact h c a3 a4 (fun i hi hm => by rw [← e3]; exact a2 i hi hm)
theorem ic_yes {q zk : Int32} {eW : Nat → Int32} {c : Nat} (hw : WR (EV b Bf f v1 v2) n m g) (hq : q.toInt = 1) (hz : zk.toInt = c) (hk : BKB b m L4 L5 g f (EV b Bf f v1 v2) n) (hr : rdOk (dl a L4 L5 g m.toInt) m.toInt c) (h3 : c ≤ 300) (he : ∀ i, i < c → eW i = dx a L4 L5 g m.toInt (psn (dl a L4 L5 g m.toInt) i)) : F_ic q zk eW a b L4 L5 Bf n f v1 v2 := Or.inl ⟨hq, c, hz, m, g, hw, hk, hr, h3, he⟩
/-- the bytes at the marks are those put there -/
theorem mk_at (hw : WR (EV b Bf f v1 v2) n m g) {o w : Int32} (e1 : v1 = o.toInt) (e2 : mkB f n ≤ 1 ∨ v2 = w.toInt) (h1 : alF b o L4 L5 = -1) (h2 : mkB f n ≤ 1 ∨ alF b w L4 L5 = -1) : ∀ i, i < n → f i = 65533 → alF b (g (psE (EV b Bf f v1 v2) i)) L4 L5 = -1 := by
  intro i hi hm
  obtain ⟨c1, c2⟩ := hw.2 i hi
  have ln := mk_len (b := b) (Bf := Bf) (v1 := v1) (v2 := v2) hm
  have q := sg_h c2 (by omega)
  rw [EV_m hm] at q
  by_cases z : mkB f i = 0
  · rw [if_pos z] at q
    have q3 : (g (psE (EV b Bf f v1 v2) i)).toInt = v1 := q
    have e : g (psE (EV b Bf f v1 v2) i) = o := v_inj (q3.trans e1)
    rw [e]; exact h1
  · rw [if_neg z] at q
    have q2 := mkB_m f (i := i + 1) n (by omega)
    rw [mkB_y hm] at q2
    have e3 := e2.resolve_left (by omega)
    have q3 : (g (psE (EV b Bf f v1 v2) i)).toInt = v2 := q
    have e : g (psE (EV b Bf f v1 v2) i) = w := v_inj (q3.trans e3)
    rw [e]; exact h2.resolve_left (by omega)
end CHR
/-! the row of choices as the reference keeps it -/
def RA4 (eH : Nat → Int32) (i k : Nat) : Int := (eH (4 * i + k)).toInt
theorem ww_tw {b l fi tw : Int32} {Bf : Int32 → Int32} {f g : Nat → Int32} {v1 v2 : Int} {i n : Nat} (h : WWI b Bf f v1 v2 i l g fi) (hf : fi.toInt = 0) (hm : f i = 65533) (hi : i < n) (ht : mkB f n ≤ 1 ∨ 0 ≤ tw.toInt) : 0 ≤ tw.toInt := by
  rcases h.2 with q | q
  · omega
  · have a := mkB_m f (i := i + 1) n (by omega)
    rw [mkB_y hm] at a
    exact ht.resolve_left (by omega)
/-- read roughly -/
def RQ2 (p m : Int32) (f : Nat → Int32) (D : Nat → Nat) (X : Nat → Int32) : Prop := ∃ c : Nat, p.toInt = psn (D1 D) c ∧ m.toInt = c ∧ ∀ i : Nat, i < c → f i = X1 D X (psn (D1 D) i)
theorem RQ2_0 {p m : Int32} {f : Nat → Int32} {D : Nat → Nat} {X : Nat → Int32} (hp : p.toInt = 0) (hm : m.toInt = 0) : RQ2 p m f D X := ⟨0, by rw [hp]; rfl, by rw [hm]; rfl, fun i hi => absurd hi (Nat.not_lt_zero i)⟩
theorem RQ2_s {p p' m m' v : Int32} {f f' : Nat → Int32} {D : Nat → Nat} {X : Nat → Int32} (h : RQ2 p m f D X) (e1 : m'.toInt = m.toInt + 1) (e2 : f' = upd f m.toNatClampNeg v) (hc : (D p.toNatClampNeg = 0 ∧ v = 65533 ∧ p'.toInt = p.toInt + 1) ∨ (¬ D p.toNatClampNeg = 0 ∧ v = X p.toNatClampNeg ∧ p'.toInt = p.toInt + D p.toNatClampNeg)) : RQ2 p' m' f' D X := by
  obtain ⟨c, h1, h2, h3⟩ := h
  have ep : p.toNatClampNeg = psn (D1 D) c := ix_eq h1
  have em : m.toNatClampNeg = c := ix_eq h2
  rw [ep] at hc
  refine ⟨c + 1, ?_, by omega, fun i hi => ?_⟩
  · have d1 : D1 D (psn (D1 D) c) = if D (psn (D1 D) c) = 0 then 1 else D (psn (D1 D) c) := rfl
    rw [psn, d1]
    rcases hc with ⟨a, _, b⟩ | ⟨a, _, b⟩
    · rw [if_pos a]
      omega
    · rw [if_neg a]
      omega
  · rw [e2, em]
    by_cases z : i = c
    · rw [z, pk_us]
      unfold X1
      rcases hc with ⟨a, b, _⟩ | ⟨a, b, _⟩
      · rw [if_pos a, b]
      · rw [if_neg a, b]
    · rw [pk_un z]; exact h3 i (by omega)
def F_r2 (m : Int32) (f : Nat → Int32) (D : Nat → Nat) (X : Nat → Int32) (n : Int) : Prop := ∃ c : Nat, (psn (D1 D) c : Int) = n ∧ m.toInt = c ∧ ∀ i : Nat, i < c → f i = X1 D X (psn (D1 D) i)
theorem RQ2_e {p m : Int32} {f : Nat → Int32} {D : Nat → Nat} {X : Nat → Int32} {n : Int} (h : RQ2 p m f D X) (hp : p.toInt = n) : F_r2 m f D X n := by
  obtain ⟨c, h1, h2, h3⟩ := h
  exact ⟨c, by omega, h2, h3⟩
section CH6
variable {a b m : Int32} {L4 L5 f g g2 : Nat → Int32} {Bf Ba : Int32 → Int32} {n : Nat} {v1 v2 : Int}
/-- the rough reading gives as many letters just if all comes back -/
theorem ic_cnt {zm : Int32} {eE : Nat → Int32} (hw : WR (EV b Bf f v1 v2) n m g) (hb : prg m.toInt 0 255 g) (hl : ∀ i, i < n → isLz (f i)) (hB : okB Bf) (hL : LBk b L4 L5 Bf) (h2 : mkB f n ≤ 2) (hal : ∀ i, i < n → f i = 65533 → alF b (g (psE (EV b Bf f v1 v2) i)) L4 L5 = -1) (hr : F_r2 zm eE (dl b L4 L5 g m.toInt) (dx b L4 L5 g m.toInt) m.toInt) : (zm.toInt = n → BKB b m L4 L5 g f (EV b Bf f v1 v2) n ∧ ∀ i, i < n → eE i = f i) ∧ (¬ zm.toInt = n → ¬ BKB b m L4 L5 g f (EV b Bf f v1 v2) n) := by
  obtain ⟨c, r1, r2, r3⟩ := hr
  have iff9 := rgh_iff hw hb hl hB hL h2 hal
  refine ⟨fun e => ?_, fun e w => e ?_⟩
  · have ec : c = n := by omega
    subst ec
    have hk := iff9.mp r1
    exact ⟨hk, fun i hi => (r3 i hi).trans (rgh_x hw hl hB hL hk hi)⟩
  · have q := rd_uniq (rg_rd r1) (rg_rd (iff9.mpr w))
    omega
theorem F_r2_cg {zm : Int32} {eE : Nat → Int32} {k : Int} (hg : ∀ j : Nat, (j : Int) < k → g2 j = g j) (hb : prg k 0 255 g2) (h : F_r2 zm eE (dl b L4 L5 g2 k) (dx b L4 L5 g2 k) k) : F_r2 zm eE (dl b L4 L5 g k) (dx b L4 L5 g k) k := by
  have e1 := dl_congr (cd := b) (L4 := L4) (L5 := L5) hg (fun _ _ => rfl) (fun _ _ => rfl) hb
  have e2 := dx_congr (cd := b) (L4 := L4) (L5 := L5) hg (fun _ _ => rfl) (fun _ _ => rfl) hb
  rw [e1, e2] at h
  exact h
end CH6
