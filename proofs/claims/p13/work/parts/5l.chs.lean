/-! a choice, told by text and codes alone -/
def VCH (a b : Int32) (L4 L5 : Nat → Int32) (Bf : Int32 → Int32) (n : Nat) (f : Nat → Int32) (v1 v2 : Int) (c : Nat) (f' : Nat → Int32) : Prop := ∃ (m : Int32) (g : Nat → Int32), WR (EV b Bf f v1 v2) n m g ∧ BKB b m L4 L5 g f (EV b Bf f v1 v2) n ∧ rdOk (dl a L4 L5 g m.toInt) m.toInt c ∧ c ≤ 300 ∧ ∀ i, i < c → f' i = dx a L4 L5 g m.toInt (psn (dl a L4 L5 g m.toInt) i)
def byV (f : Nat → Int32) (n : Nat) (v1 v2 : Int) : Prop := (0 ≤ v1 ∧ v1 ≤ 255) ∧ (mkB f n ≤ 1 ∨ (0 ≤ v2 ∧ v2 ≤ 255))
theorem EV_b {b : Int32} {Bf : Int32 → Int32} {f : Nat → Int32} {v1 v2 : Int} {n i : Nat} (hi : i < n) (hf : prg n 0 65535 f) (hB : okB Bf) (hv : byV f n v1 v2) : byt (EV b Bf f v1 v2 i) := by
  have r := hf i (by omega)
  by_cases w : f i = 65533
  · rw [EV_m w]
    intro x hx
    have hx : x ∈ [if mkB f i = 0 then v1 else v2] := hx
    rw [List.mem_singleton] at hx
    by_cases z : mkB f i = 0
    · rw [if_pos z] at hx
      rw [hx]; exact hv.1
    · rw [if_neg z] at hx
      have q := mkB_m f (i := i + 1) n (by omega)
      rw [mkB_y w] at q
      rw [hx]
      exact hv.2.resolve_left (by omega)
  · rw [EV_n w]
    exact (enc_b r.1 r.2 (hB _ r.1 r.2)).1
theorem WRV_b {b m : Int32} {Bf : Int32 → Int32} {f g : Nat → Int32} {v1 v2 : Int} {n : Nat} (hw : WR (EV b Bf f v1 v2) n m g) (hf : prg n 0 65535 f) (hB : okB Bf) (hv : byV f n v1 v2) : prg m.toInt 0 255 g := WR_byt hw (fun i hi => EV_b hi hf hB hv)
theorem cT_eq {T : Int32 → Int32 → Int32} {c : Nat} {f g : Nat → Int32} (h : ∀ i, i < c → f i = g i) : cT T c f = cT T c g := by
  unfold cT
  have e : ((c : Nat) : Int).toNat = c := by omega
  obtain ⟨a1, a2⟩ := cs_eq (T := T) c h
  rw [e, a1, a2]
section VCS
variable {a b : Int32} {L4 L5 M4 M5 f e' : Nat → Int32} {Bf Cf : Int32 → Int32} {n : Nat} {v1 v2 w1 w2 : Int} {T T' : Int32 → Int32 → Int32}
theorem VCH_u {c c' : Nat} {f1 f2 : Nat → Int32} (hf : prg n 0 65535 f) (hB : okB Bf) (hv : byV f n v1 v2) (h : VCH a b L4 L5 Bf n f v1 v2 c f1) (h' : VCH a b L4 L5 Bf n f v1 v2 c' f2) : c = c' ∧ ∀ i, i < c → f1 i = f2 i := by
  obtain ⟨m, g, a1, a2, a3, a4, a5⟩ := h
  obtain ⟨m', g', b1, b2, b3, b4, b5⟩ := h'
  obtain ⟨q1, q2⟩ := WR_eq a1 b1
  subst q1
  have hb := WRV_b a1 hf hB hv
  have e1 := dl_congr (cd := a) (L4 := L4) (L5 := L5) q2 (fun _ _ => rfl) (fun _ _ => rfl) hb
  have e2 := dx_congr (cd := a) (L4 := L4) (L5 := L5) q2 (fun _ _ => rfl) (fun _ _ => rfl) hb
  rw [← e1] at b3 b5
  rw [← e2] at b5
  have q := rd_uniq a3 b3
  subst q
  exact ⟨rfl, fun i hi => (a5 i hi).trans (b5 i hi).symm⟩
theorem mkB_cg {f e : Nat → Int32} : ∀ n, (∀ j, j < n → f j = e j) → mkB f n = mkB e n
  | 0, _ => rfl
  | n + 1, h => by rw [mkB, mkB, mkB_cg n (fun j hj => h j (by omega)), h n (by omega)]
theorem EV_cg {i : Nat} (hi : i < n) (hf : prg n 0 65535 f) (hfe : ∀ j, j < n → f j = e' j) (hE : ∀ x : Int32, 0 ≤ x.toInt → x.toInt ≤ 65535 → enc b x (Bf x) = enc b x (Cf x)) (hv : ∀ j, j < n → f j = 65533 → (if mkB f j = 0 then v1 else v2) = (if mkB f j = 0 then w1 else w2)) : EV b Bf f v1 v2 i = EV b Cf e' w1 w2 i := by
  have r := hf i (by omega)
  by_cases w : f i = 65533
  · rw [EV_m w, EV_m (by rw [← hfe i hi]; exact w), ← mkB_cg i (fun j hj => hfe j (by omega)), hv i hi w]
  · rw [EV_n w, EV_n (by rw [← hfe i hi]; exact w), ← hfe i hi]
    exact hE _ r.1 r.2
/-- what told codes, text and free bytes are alike gives the same choice -/
theorem VCH_t {c : Nat} {f1 : Nat → Int32} (hf : prg n 0 65535 f) (hB : okB Bf) (hv : byV f n v1 v2) (hfe : ∀ j, j < n → f j = e' j) (h4 : ∀ k, k < 256 → L4 k = M4 k) (h5 : ∀ k, k < 256 → L5 k = M5 k) (hE : ∀ x : Int32, 0 ≤ x.toInt → x.toInt ≤ 65535 → enc b x (Bf x) = enc b x (Cf x)) (hw : ∀ j, j < n → f j = 65533 → (if mkB f j = 0 then v1 else v2) = (if mkB f j = 0 then w1 else w2)) (h : VCH a b L4 L5 Bf n f v1 v2 c f1) : VCH a b M4 M5 Cf n e' w1 w2 c f1 := by
  obtain ⟨m, g, a1, a2, a3, a4, a5⟩ := h
  have hb := WRV_b a1 hf hB hv
  have ee : ∀ j, j < n → EV b Bf f v1 v2 j = EV b Cf e' w1 w2 j := fun j hj => EV_cg hj hf hfe hE hw
  have ea1 := dl_congr (cd := a) (g := g) (g' := g) (n := m.toInt) (fun _ _ => rfl) h4 h5 hb
  have ea2 := dx_congr (cd := a) (g := g) (g' := g) (n := m.toInt) (fun _ _ => rfl) h4 h5 hb
  have eb1 := dl_congr (cd := b) (g := g) (g' := g) (n := m.toInt) (fun _ _ => rfl) h4 h5 hb
  rw [ea1] at a3 a5
  rw [ea2] at a5
  refine ⟨m, g, WR_congr a1 ee, fun i hi he => ?_, a3, a4, a5⟩
  have q := a2 i hi (by rw [hfe i hi]; exact he)
  rw [eb1, psE_congr i (fun j hj => ee j (by omega))] at q
  exact q
/-- the choice that stands at t in the row of all -/
def VX (a b : Int32) (L4 L5 : Nat → Int32) (Bf : Int32 → Int32) (T : Int32 → Int32 → Int32) (n : Nat) (f : Nat → Int32) (mk t : Nat) (e : Nat → Int) : Prop := ∃ o w : Int32, (0 ≤ o.toInt ∧ o.toInt ≤ 255) ∧ (0 ≤ w.toInt ∧ w.toInt ≤ 255) ∧ ((mk = 1 ∧ (t : Int) = o.toInt ∧ w.toInt = 0) ∨ (mk = 2 ∧ (t : Int) = 256 * o.toInt + w.toInt)) ∧ alF b o L4 L5 = -1 ∧ (mk = 2 → alF b w L4 L5 = -1) ∧ ∃ (c : Nat) (f' : Nat → Int32), VCH a b L4 L5 Bf n f o.toInt w.toInt c f' ∧ ∀ k, k < 4 → e k = ent (if mk = 1 then -1 else o.toInt) (if mk = 1 then o.toInt else w.toInt) (cT T c f') c k
theorem VX_fn (hf : prg n 0 65535 f) (hB : okB Bf) {mk : Nat} : fnV (VX a b L4 L5 Bf T n f mk) := by
  rintro t e e' ⟨o, w, r1, r2, r3, r4, r5, c, f', r6, r7⟩ ⟨o', w', s1, s2, s3, s4, s5, c', f2, s6, s7⟩ k hk
  have eo : o = o' := v_inj (by omega)
  have ew : w = w' := v_inj (by omega)
  subst eo
  subst ew
  obtain ⟨q1, q2⟩ := VCH_u hf hB ⟨r1, Or.inr r2⟩ r6 s6
  subst q1
  rw [r7 k hk, s7 k hk, cT_eq q2]
/-- one mark -/
theorem lo1 {l fm lm v : Int32} {g : Nat → Int32} (h : LOI b Bf f n l g fm lm) (h1 : mkB f n = 1) (w : Int) : fm.toInt = -1 ∧ 0 ≤ lm.toInt ∧ lm.toInt < l.toInt ∧ WR (EV b Bf f v.toInt w) n l (upd g lm.toNatClampNeg v) ∧ ∀ (L4 L5 : Nat → Int32) (cd : Int32), BKB cd l L4 L5 (upd g lm.toNatClampNeg v) f (EV b Bf f v.toInt w) n ↔ dl cd L4 L5 (upd g lm.toNatClampNeg v) l.toInt lm.toNatClampNeg = 0 := by
  obtain ⟨hw, ⟨q1, _⟩ | ⟨_, q2, i1, q3, q4, q5, q6⟩ | ⟨q1, _⟩ | q1⟩ := h
  · omega
  · have lt := psE_lt hw q3
    have cl : lm.toNatClampNeg = psE (EV b Bf f 0 0) i1 := ix_eq q6
    have one : ∀ j, j < n → f j = 65533 → j = i1 := fun j hj he => by
      have q := mkB_m f (i := j + 1) n (by omega)
      rw [mkB_y he] at q
      exact mkB_u he q4 (by omega)
    obtain ⟨u1, u2⟩ := WR_upd (E' := EV b Bf f v.toInt w) (x := v) (g' := upd g lm.toNatClampNeg v) hw q3 (mk_len q4) (by rw [EV_m q4, if_pos q5]) (fun j hj hne => by
      by_cases z : f j = 65533
      · exact absurd (one j hj z) hne
      · rw [EV_n z, EV_n z]) (by rw [cl])
    refine ⟨q2, by omega, by omega, u1, fun L4 L5 cd => ⟨fun hk => ?_, fun hk i hi he => ?_⟩⟩
    · have z := hk i1 q3 q4
      rw [u2 i1 (by omega), ← cl] at z
      exact z
    · rw [one i hi he, u2 i1 (by omega), ← cl]
      exact hk
  · omega
  · omega
/-- two marks -/
theorem lo2 {l fm lm o v : Int32} {g : Nat → Int32} (h : LOI b Bf f n l g fm lm) (h1 : mkB f n = 2) : 0 ≤ fm.toInt ∧ fm.toInt < lm.toInt ∧ lm.toInt < l.toInt ∧ WR (EV b Bf f o.toInt v.toInt) n l (upd (upd g fm.toNatClampNeg o) lm.toNatClampNeg v) ∧ ∀ (L4 L5 : Nat → Int32) (cd : Int32), BKB cd l L4 L5 (upd (upd g fm.toNatClampNeg o) lm.toNatClampNeg v) f (EV b Bf f o.toInt v.toInt) n ↔ (dl cd L4 L5 (upd (upd g fm.toNatClampNeg o) lm.toNatClampNeg v) l.toInt lm.toNatClampNeg = 0 ∧ dl cd L4 L5 (upd (upd g fm.toNatClampNeg o) lm.toNatClampNeg v) l.toInt fm.toNatClampNeg = 0) := by
  obtain ⟨hw, ⟨q1, _⟩ | ⟨q1, _⟩ | ⟨_, i1, i2, q3, q4, q5, q6, q7, q8, q9, q10⟩ | q1⟩ := h
  · omega
  · omega
  · have lt2 := psE_lt hw q4
    have cf : fm.toNatClampNeg = psE (EV b Bf f 0 0) i1 := ix_eq q9
    have cl : lm.toNatClampNeg = psE (EV b Bf f 0 0) i2 := ix_eq q10
    have i12 : i1 < i2 := by
      rcases Nat.lt_trichotomy i1 i2 with z | z | z
      · exact z
      · rw [z] at q7; omega
      · have q := mkB_m f (i := i2 + 1) i1 (by omega)
        rw [mkB_y q6] at q
        omega
    have s1 : psE (EV b Bf f 0 0) (i1 + 1) = psE (EV b Bf f 0 0) i1 + 1 := by rw [psE, mk_len q5]
    have s2 := psE_le (EV b Bf f 0 0) (i := i1 + 1) i2 (by omega)
    have two : ∀ j, j < n → f j = 65533 → j = i1 ∨ j = i2 := fun j hj he => by
      have q := mkB_m f (i := j + 1) n (by omega)
      rw [mkB_y he] at q
      by_cases z : mkB f j = 0
      · exact Or.inl (mkB_u he q5 (by omega))
      · exact Or.inr (mkB_u he q6 (by omega))
    obtain ⟨u1, u2⟩ := WR_upd (E' := EV b Bf f o.toInt 0) (x := o) (g' := upd g fm.toNatClampNeg o) hw q3 (mk_len q5) (by rw [EV_m q5, if_pos q7]) (fun j hj hne => by
      by_cases z : f j = 65533
      · have e2 := (two j hj z).resolve_left hne
        rw [EV_m z, EV_m z, e2, if_neg (by omega), if_neg (by omega)]
      · rw [EV_n z, EV_n z]) (by rw [cf])
    obtain ⟨w1, w2⟩ := WR_upd (E' := EV b Bf f o.toInt v.toInt) (x := v) (g' := upd (upd g fm.toNatClampNeg o) lm.toNatClampNeg v) u1 q4 (mk_len q6) (by rw [EV_m q6, if_neg (by omega)]) (fun j hj hne => by
      by_cases z : f j = 65533
      · have e2 := (two j hj z).resolve_right hne
        rw [EV_m z, EV_m z, e2, if_pos q7, if_pos q7]
      · rw [EV_n z, EV_n z]) (by rw [u2 i2 (by omega), cl])
    refine ⟨by omega, by omega, by omega, w1, fun L4 L5 cd => ⟨fun hk => ⟨?_, ?_⟩, fun hk i hi he => ?_⟩⟩
    · have z := hk i2 q4 q6
      rw [w2 i2 (by omega), u2 i2 (by omega), ← cl] at z
      exact z
    · have z := hk i1 q3 q5
      rw [w2 i1 (by omega), u2 i1 (by omega), ← cf] at z
      exact z
    · rcases two i hi he with e | e
      · rw [e, w2 i1 (by omega), u2 i1 (by omega), ← cf]; exact hk.2
      · rw [e, w2 i2 (by omega), u2 i2 (by omega), ← cl]; exact hk.1
  · omega
theorem VCH_g {l : Int32} {g : Nat → Int32} (hf : prg n 0 65535 f) (hB : okB Bf) (hv : byV f n v1 v2) (hw : WR (EV b Bf f v1 v2) n l g) {e : Nat → Int} {x1 x2 : Int} : (∃ (c : Nat) (f' : Nat → Int32), VCH a b L4 L5 Bf n f v1 v2 c f' ∧ ∀ k, k < 4 → e k = ent x1 x2 (cT T c f') c k) ↔ (BKB b l L4 L5 g f (EV b Bf f v1 v2) n ∧ RDV a L4 L5 T g l.toInt x1 x2 e) := by
  constructor
  · rintro ⟨c, f', ⟨m, g', a1, a2, a3, a4, a5⟩, he⟩
    obtain ⟨q1, q2⟩ := WR_eq a1 hw
    subst q1
    have hb := WRV_b a1 hf hB hv
    have e1 := dl_congr (cd := a) (L4 := L4) (L5 := L5) q2 (fun _ _ => rfl) (fun _ _ => rfl) hb
    have e2 := dx_congr (cd := a) (L4 := L4) (L5 := L5) q2 (fun _ _ => rfl) (fun _ _ => rfl) hb
    have e3 := dl_congr (cd := b) (L4 := L4) (L5 := L5) q2 (fun _ _ => rfl) (fun _ _ => rfl) hb
    rw [e1] at a3 a5
    rw [e2] at a5
    refine ⟨fun i hi hm => by rw [← e3]; exact a2 i hi hm, c, a3, a4, fun k hk => ?_⟩
    rw [he k hk, cT_eq a5]
  · rintro ⟨hk, c, a3, a4, he⟩
    exact ⟨c, _, ⟨l, g, hw, hk, a3, a4, fun _ _ => rfl⟩, he⟩
theorem vx_1 {l fm lm v : Int32} {g : Nat → Int32} {e : Nat → Int} (hf : prg n 0 65535 f) (hB : okB Bf) (h : LOI b Bf f n l g fm lm) (h1 : mkB f n = 1) (v0 : 0 ≤ v.toInt) (v2 : v.toInt ≤ 255) : VX a b L4 L5 Bf T n f 1 v.toNatClampNeg e ↔ (alF b v L4 L5 = -1 ∧ BVG a b L4 L5 T (upd g lm.toNatClampNeg v) l.toInt fm lm (-1 : Int32).toInt v.toInt e) := by
  obtain ⟨p1, p2, p3, p4, p5⟩ := lo1 (v := v) h h1 0
  have cv := v_clamp v0
  have hv : byV f n v.toInt 0 := ⟨⟨v0, v2⟩, Or.inl (by omega)⟩
  have vg := VCH_g (a := a) (L4 := L4) (L5 := L5) (T := T) (e := e) (x1 := -1) (x2 := v.toInt) hf hB hv p4
  constructor
  · rintro ⟨o, w, r1, r2, r3, r4, r5, c, f', r6, r7⟩
    have eo : o = v := v_inj (by omega)
    have ew : w.toInt = 0 := by omega
    subst eo
    rw [ew] at r6
    have q := vg.mp ⟨c, f', r6, r7⟩
    exact ⟨r4, ⟨(p5 L4 L5 b).mp q.1, Or.inl p1⟩, q.2⟩
  · rintro ⟨r4, ⟨r5, _⟩, r6⟩
    obtain ⟨c, f', q1, q2⟩ := vg.mpr ⟨(p5 L4 L5 b).mpr r5, r6⟩
    exact ⟨v, 0, ⟨v0, v2⟩, by decide, Or.inl ⟨rfl, by omega, rfl⟩, r4, fun z => absurd z (by decide), c, f', q1, q2⟩
theorem vx_2 {l fm lm o v : Int32} {g : Nat → Int32} {e : Nat → Int} (hf : prg n 0 65535 f) (hB : okB Bf) (h : LOI b Bf f n l g fm lm) (h1 : mkB f n = 2) (o0 : 0 ≤ o.toInt) (o2 : o.toInt ≤ 255) (v0 : 0 ≤ v.toInt) (v2 : v.toInt ≤ 255) : VX a b L4 L5 Bf T n f 2 (256 * o.toNatClampNeg + v.toNatClampNeg) e ↔ (alF b o L4 L5 = -1 ∧ alF b v L4 L5 = -1 ∧ BVG a b L4 L5 T (upd (upd g fm.toNatClampNeg o) lm.toNatClampNeg v) l.toInt fm lm o.toInt v.toInt e) := by
  obtain ⟨p1, p2, p3, p4, p5⟩ := lo2 (o := o) (v := v) h h1
  have cv := v_clamp v0
  have co := v_clamp o0
  have hv : byV f n o.toInt v.toInt := ⟨⟨o0, o2⟩, Or.inr ⟨v0, v2⟩⟩
  have vg := VCH_g (a := a) (L4 := L4) (L5 := L5) (T := T) (e := e) (x1 := o.toInt) (x2 := v.toInt) hf hB hv p4
  constructor
  · rintro ⟨o', w, r1, r2, r3, r4, r5, c, f', r6, r7⟩
    have eo : o' = o := v_inj (by omega)
    have ew : w = v := v_inj (by omega)
    subst eo
    subst ew
    have q := vg.mp ⟨c, f', r6, r7⟩
    have q2 := (p5 L4 L5 b).mp q.1
    exact ⟨r4, r5 rfl, ⟨q2.1, Or.inr q2.2⟩, q.2⟩
  · rintro ⟨r4, r5, ⟨r6, r7⟩, r8⟩
    obtain ⟨c, f', q1, q2⟩ := vg.mpr ⟨(p5 L4 L5 b).mpr ⟨r6, r7.resolve_left (by omega)⟩, r8⟩
    exact ⟨o, v, ⟨o0, o2⟩, ⟨v0, v2⟩, Or.inr ⟨rfl, by omega⟩, r4, fun _ => r5, c, f', q1, q2⟩
end VCS
