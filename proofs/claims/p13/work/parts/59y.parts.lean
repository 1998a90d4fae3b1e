/-! parts() of the class: one harm undone, span by span; the parting laid together -/
theorem QOK_of {n : Int} {pr fr en h cs : Int32} {i : Nat} {Q1 Q1' Q2 Q2' Q3 Q3' Q4 Q4' : Nat → Int32} (ho : F_of pr fr en h cs Q1 Q1' Q2 Q2' Q3 Q3' Q4 Q4') (ei : fr.toInt = i) (hq : QOK n i Q1 Q2) : QOK n i Q1' Q2' := by
  have cf : fr.toNatClampNeg = i := ix_eq ei
  obtain ⟨sm, sp, s1, s2, s3⟩ := ho
  rw [cf] at s3
  rcases s3 with ⟨t1, t2, t3, t4, t5⟩ | ⟨t1, t2, t3, t4, t5, t6⟩
  · exact QOK_u hq (by omega) (Or.inl t2) (Or.inl t3)
  · rw [t3, t4]; exact hq
theorem QOK_0 {n m : Int} {k : Nat} {Q1 Q1' Q2 Q2' : Nat → Int32} (e1 : Q1' = upd Q1 k 0) (e2 : Q2' = upd Q2 k 0) (hk : (k : Int) = n) (hm : m = n - 1) : QOK n m Q1' Q2' := by
  intro j h1 h2
  have e : j = k := by omega
  have z : (0 : Int32).toInt = 0 := rfl
  rw [e1, e2, e, pk_us, pk_us, z]
  omega
theorem QOK_at {n m : Int} {Q1 Q2 : Nat → Int32} {en : Int32} (h : QOK n m Q1 Q2) (h1 : m < en.toInt) (h0 : 0 ≤ en.toInt) (h2 : en.toInt ≤ n) (h3 : n ≤ 60) (h4 : 0 ≤ m) : (0 ≤ (Q1 en.toNatClampNeg).toInt ∧ (Q1 en.toNatClampNeg).toInt ≤ 5000000) ∧ (0 ≤ (Q2 en.toNatClampNeg).toInt ∧ (Q2 en.toNatClampNeg).toInt ≤ 60) := by
  have c := v_clamp h0
  have q := h en.toNatClampNeg (by omega) (by omega)
  omega
section PR3
variable {U : Nat → Nat → (Nat → Int32) → Nat → (Nat → Int32) → Prop} {T : Int32 → Int32 → Int32}
theorem BFS_0 {z n : Nat} {f : Nat → Int32} {pr : Int} {A : Nat → Int → Prop} {i : Nat} {Q1 Q2 Q3 Q4 : Nat → Int32} (h : Q1 i = -1) (hA : ∀ (j : Nat) (h : Int), A j h → j ≤ i) : BFS U T z n f pr A i Q1 Q2 Q3 Q4 := Or.inl ⟨h, fun j h' s sp a c => by have := hA j h' a; have := c.1; omega⟩
/-- what lies behind i is bare of candidates of harm h from j on -/
theorem BFS_no {z n : Nat} {f : Nat → Int32} {pr : Int} {A A' : Nat → Int → Prop} {i : Nat} {Q1 Q2 Q3 Q4 : Nat → Int32} (b : BFS U T z n f pr A i Q1 Q2 Q3 Q4) (hA : ∀ (j : Nat) (h : Int), A j h → A' j h) (hA' : ∀ (j : Nat) (h : Int), i < j → j ≤ n → A' j h → A j h ∨ (0 ≤ h ∧ ∀ c f', ¬ U h.toNat (j - i) (fun k => f (i + k)) c f')) : BFS U T z n f pr A' i Q1 Q2 Q3 Q4 := by
  refine BFS_A b (fun j h s sp c => ⟨fun a => ?_, hA j h⟩)
  rcases hA' j h c.1 c.2.1 a with w | ⟨w1, w2⟩
  · exact w
  · obtain ⟨_, _, _, _, ⟨c', f', c5, _⟩, _⟩ := c
    rcases c5 with ⟨c5, _⟩ | ⟨_, c5⟩
    · omega
    · exact absurd c5 (w2 _ _)
end PR3
theorem hm_no {m a b : Int32} {g f L4 L5 : Nat → Int32} {Bf : Int32 → Int32} {n : Nat} (hw : WR (fun j => enc a (f j) (Bf (f j))) n m g) (hb : prg m.toInt 0 255 g) (h : ∀ c, rdOk (dl b L4 L5 g m.toInt) m.toInt c → 300 < c) : ∀ (c : Nat) (f2 : Nat → Int32), ¬ HM a b L4 L5 Bf n f c f2 := by
  have q := ps_no (r := 0) (l := 0) (f' := f) (n := (n : Int)) (b := b) (L4 := L4) (L5 := L5) (Bf := Bf) hw hb (fun _ => h) rfl
  rcases q with ⟨q, _⟩ | ⟨_, q⟩
  · exact absurd q (by decide)
  · exact q
theorem hm_enc {a b : Int32} {f L4 L5 : Nat → Int32} {Bf : Int32 → Int32} {n k : Nat} (hk : k < n) (he : enc a (f k) (Bf (f k)) = []) : ∀ (c : Nat) (f2 : Nat → Int32), ¬ HM a b L4 L5 Bf n f c f2 := by
  rintro c f2 ⟨m, g, a1, _⟩
  exact (a1.2 k hk).1 he
theorem WR_pre {E : Nat → List Int} {n n' : Nat} {l l' : Int32} {g g' : Nat → Int32} (h : WR E n l g) (hn : n ≤ n') (h' : WR E n' l' g') : l.toInt ≤ l'.toInt ∧ ∀ k : Nat, (k : Int) < l.toInt → g k = g' k := by
  have q : WR E n l g' := ⟨h.1, fun j hj => h'.2 j (by omega)⟩
  refine ⟨?_, (WR_eq h q).2⟩
  have := psE_le E n' hn
  rw [h.1, h'.1]
  omega
/-- more than 300 letters were read already -/
theorem hm_over {m a b re la su le : Int32} {g f L4 L5 : Nat → Int32} {Bf : Int32 → Int32} {n n' : Nat} {T : Int32 → Int32 → Int32} (hw : WR (fun j => enc a (f j) (Bf (f j))) n m g) (hn : n ≤ n') (hr : RS T re la su le (dl b L4 L5 g m.toInt) (dx b L4 L5 g m.toInt)) (h3 : 300 < le.toInt) (hre : re.toInt ≤ m.toInt) : ∀ (c : Nat) (f2 : Nat → Int32), ¬ HM a b L4 L5 Bf n' f c f2 := by
  rintro c f2 ⟨m', g', a1, a2, a3, a4, _⟩
  obtain ⟨e1, e2⟩ := WR_pre hw hn a1
  have up : ∀ p, ¬ dl b L4 L5 g m.toInt p = 0 → dl b L4 L5 g' m'.toInt p = dl b L4 L5 g m.toInt p ∧ dx b L4 L5 g' m'.toInt p = dx b L4 L5 g m.toInt p := fun p hp => dl_up e2 e1 hp
  obtain ⟨c0, r1, r2, r3, _⟩ := RS_up hr up
  have := psn_lt r2 c0 (show c < c0 by omega) (Nat.le_refl _)
  have := a3.1
  omega
theorem hm_yes {m a b re la su le : Int32} {g f L4 L5 : Nat → Int32} {Bf : Int32 → Int32} {n : Nat} {T : Int32 → Int32 → Int32} (hw : WR (fun j => enc a (f j) (Bf (f j))) n m g) (h9 : m.toInt ≤ 900) (hr : RS T re la su le (dl b L4 L5 g m.toInt) (dx b L4 L5 g m.toInt)) (h3 : le.toInt ≤ 300) (hre : re.toInt = m.toInt) : ∃ c f', HM a b L4 L5 Bf n f c f' ∧ ∀ s : Int32, s.toInt = su.toInt + cF (T la 32) la 32 → s.toInt = cT T c f' := by
  obtain ⟨c, r1, r2, r3, r4, r5⟩ := hr
  refine ⟨c, fun i => dx b L4 L5 g m.toInt (psn (dl b L4 L5 g m.toInt) i), ⟨m, g, hw, h9, ⟨by omega, r2⟩, by omega, fun _ _ => rfl⟩, fun s hs => ?_⟩
  unfold cT
  have e : ((c : Nat) : Int).toNat = c := by omega
  rw [e, ← r4, ← r5]
  exact hs
theorem hm_stop {m a b re la su le : Int32} {g f L4 L5 : Nat → Int32} {Bf : Int32 → Int32} {n : Nat} {T : Int32 → Int32 → Int32} (hw : WR (fun j => enc a (f j) (Bf (f j))) n m g) (hb : prg m.toInt 0 255 g) (hr : RS T re la su le (dl b L4 L5 g m.toInt) (dx b L4 L5 g m.toInt)) (h0 : dl b L4 L5 g m.toInt re.toNatClampNeg = 0) (hre : re.toInt < m.toInt) : ∀ (c : Nat) (f2 : Nat → Int32), ¬ HM a b L4 L5 Bf n f c f2 := by
  obtain ⟨c, r1, r2, r3, r4, r5⟩ := hr
  rw [ix_eq r1] at h0
  exact hm_no hw hb (fun c' w => absurd w (rd_stop r2 h0 (by omega) c'))
theorem wr_sh {E : Nat → List Int} {i i' l l' r cd x B : Int32} {g g' : Nat → Int32} {b : Nat} (h : WR E (i.toInt - b).toNat l g) (hE : E (i.toInt - b).toNat = enc cd x B) (hf : F_en r cd x B l l' g g') (hr : ¬ r.toInt = 0) (h0 : (b : Int) ≤ i.toInt) (hi' : i'.toInt = i.toInt + 1) : WR E (i'.toInt - b).toNat l' g' ∧ l.toInt ≤ l'.toInt ∧ ∀ j : Nat, (j : Int) < l.toInt → g j = g' j := by
  obtain ⟨e1, e2⟩ := F_en_1 hf hr
  have e : (i'.toInt - b).toNat = (i.toInt - b).toNat + 1 := by omega
  refine ⟨?_, by have := e2.1; omega, fun j hj => (e2.2.1 j hj).symm⟩
  rw [e]
  exact WR_s h (by rw [hE]; exact e1) (by rw [hE]; exact e2)
theorem addAll_ap {l l' lo r : Int32} {f f' g : Nat → Int32} (h : F_addAll 300 l l' lo r f f' g) (h0 : 0 ≤ l.toInt) (h1 : 0 ≤ lo.toInt) : (¬ r.toInt = 0 → l'.toInt = l.toInt + lo.toInt ∧ (∀ q : Nat, (q : Int) < l.toInt → f' q = f q) ∧ ∀ q : Nat, (q : Int) < lo.toInt → f' (l.toInt.toNat + q) = g q) ∧ (r.toInt = 0 → 300 < l.toInt + lo.toInt) := by
  have c1 := v_clamp h0
  have c2 := v_clamp h1
  rcases h with ⟨a1, a2, a3, a4⟩ | ⟨a1, a2, a3, a4⟩
  · refine ⟨fun _ => ⟨a2, fun q hq => ?_, fun q hq => ?_⟩, fun w => by rw [a3] at w; exact absurd w (by decide)⟩
    · rw [a4]
      unfold va_cpy
      rw [if_neg (by omega)]
    · rw [a4]
      unfold va_cpy
      rw [if_pos (by omega)]
      congr 1
      omega
  · exact ⟨fun w => absurd (by rw [a3]; rfl) w, fun _ => by omega⟩
section PR4
variable {U : Nat → Nat → (Nat → Int32) → Nat → (Nat → Int32) → Prop} {T : Int32 → Int32 → Int32}
/-- the spans laid together up to fr -/
def LYD (U : Nat → Nat → (Nat → Int32) → Nat → (Nat → Int32) → Prop) (n : Nat) (f E H : Nat → Int32) (fr l : Int32) (g : Nat → Int32) : Prop := ∃ k, RCH U n f E H k fr.toNatClampNeg l.toInt.toNat g
def F_lay (U : Nat → Nat → (Nat → Int32) → Nat → (Nat → Int32) → Prop) (n : Nat) (f E H : Nat → Int32) (r l : Int32) (g : Nat → Int32) : Prop := (r = 1 ∧ ∃ k, RCH U n f E H k n l.toInt.toNat g) ∨ (r = 0 ∧ ∃ (k i a : Nat) (fm : Nat → Int32), RCH U n f E H k i a fm ∧ 300 < a)
theorem lay_s {n m : Nat} {f E H g g2 g' : Nat → Int32} {fr fr' l l2 l' r : Int32} (h : LYD U n f E H fr l g) (hi : fr.toNatClampNeg < n) (hs : SPN U f fr.toNatClampNeg (E fr.toNatClampNeg).toInt.toNat (H fr.toNatClampNeg).toInt m g2) (hm : l2.toInt = m) (ha : F_addAll 300 l l' l2 r g g' g2) (h0 : 0 ≤ l.toInt) (hr : ¬ r.toInt = 0) (hf : fr'.toInt = (E fr.toNatClampNeg).toInt) (hE : 0 ≤ (E fr.toNatClampNeg).toInt) : LYD U n f E H fr' l' g' := by
  obtain ⟨k, hk⟩ := h
  obtain ⟨a1, a2, a3⟩ := (addAll_ap ha h0 (by omega)).1 hr
  have q := RCH_step hk hi hs (fm' := g') (fun q hq => a2 q (by omega)) (fun q hq => a3 q (by omega))
  have e1 : fr'.toNatClampNeg = (E fr.toNatClampNeg).toInt.toNat := ix_eq (by omega)
  have e2 : l'.toInt.toNat = l.toInt.toNat + m := by omega
  exact ⟨k + 1, by rw [e1, e2]; exact q⟩
theorem lay_no {n m : Nat} {f E H g g2 g' f' : Nat → Int32} {fr l l2 l' r q l9 : Int32} (h : LYD U n f E H fr l g) (hi : fr.toNatClampNeg < n) (hs : SPN U f fr.toNatClampNeg (E fr.toNatClampNeg).toInt.toNat (H fr.toNatClampNeg).toInt m g2) (hm : l2.toInt = m) (ha : F_addAll 300 l l' l2 r g g' g2) (h0 : 0 ≤ l.toInt) (hr : r.toInt = 0) (hq : q.toInt = 0) : F_lay U n f E H q l9 f' := by
  obtain ⟨k, hk⟩ := h
  have a := (addAll_ap ha h0 (by omega)).2 hr
  have st := RCH_step hk hi hs (fm' := fun q => if q < l.toInt.toNat then g q else g2 (q - l.toInt.toNat)) (fun q hq => if_pos hq) (fun q hq => by
    show (if l.toInt.toNat + q < l.toInt.toNat then _ else g2 (l.toInt.toNat + q - l.toInt.toNat)) = _
    rw [if_neg (by omega)]
    congr 1
    omega)
  exact Or.inr ⟨v_inj hq, _, _, _, _, st, by omega⟩
theorem lay_end {n : Nat} {f E H g : Nat → Int32} {fr l q : Int32} (h : LYD U n f E H fr l g) (hn : fr.toInt = n) (hq : q.toInt = 1) : F_lay U n f E H q l g := by
  obtain ⟨k, hk⟩ := h
  rw [ix_eq hn] at hk
  exact Or.inl ⟨v_inj hq, k, hk⟩
theorem lay_pt {z n : Nat} {f fm : Nat → Int32} {pr v : Int} {C S E H : Nat → Int32} {r l : Int32} (hB : PBK U T z n f pr 0 C S E H) (h : F_lay U n f E H r l fm) (hr : ¬ r.toInt = 0) (hl : 0 ≤ l.toInt ∧ l.toInt ≤ 300) (h0 : 1 ≤ n ∧ n ≤ 60 ∧ 0 ≤ pr ∧ pr ≤ 1000) (hv : v = (S 0).toInt) : ∃ c : Nat, l.toInt = c ∧ ptP U T z n f pr c fm v := by
  rcases h with ⟨_, k, hk⟩ | ⟨a, _⟩
  · exact ⟨l.toInt.toNat, by omega, h0, C, S, E, H, hB, hv, by omega, k, hk⟩
  · exact absurd (by rw [a]; rfl) hr
theorem lay_pn (hU : okU U) {z n : Nat} {f fm : Nat → Int32} {pr : Int} {C S E H : Nat → Int32} {r l : Int32} (hf : prg n 0 65535 f) (hB : PBK U T z n f pr 0 C S E H) (h : F_lay U n f E H r l fm) (hr : r.toInt = 0) : ∀ c fm v, ¬ ptP U T z n f pr c fm v := by
  rcases h with ⟨a, _⟩ | ⟨_, k, i, a, fm', hk, ha⟩
  · rw [a] at hr; exact absurd hr (by decide)
  · exact pt_big hU hf hB hk ha
theorem PBK_sp {z n : Nat} {f : Nat → Int32} {pr : Int} {C S E H : Nat → Int32} (a : PBK U T z n f pr 0 C S E H) : ∀ i : Nat, i < n → (i : Int) < (E i).toInt ∧ (E i).toInt ≤ n ∧ -1 ≤ (H i).toInt ∧ (H i).toInt < z ∧ ∃ c f', SPN U f i (E i).toInt.toNat (H i).toInt c f' := fun i hi => by
  obtain ⟨a0, a1, _⟩ := a i (by omega) hi
  obtain ⟨b1, b2, b3, b4, ⟨c, f', b5, _⟩, _⟩ := a1
  exact ⟨by omega, by omega, b3, b4, c, f', b5⟩
end PR4

set_option maxHeartbeats 40000000 in
set_option maxRecDepth 100000 in
theorem f_X6_tryAsItIs (l : Launch) (dC : Nat → ClassId) (dI : Nat → Nat → Nat) (cI cS : ClassId) (sz : Nat) (oQ : Nat) (nx : Nat) (oC : Nat) (oH : Nat) (oK : Nat) (oE : Nat) (nq : Nat) (np : Nat) (nv : Nat) (q1 : Nat) (q2 : Nat) (q3 : Nat) (q4 : Nat) (k1 : Nat) (k2 : Nat) (ax : Nat) (pr : Int32) (fQ1 : Nat → Int32) (fQ2 : Nat → Int32) (fQ3 : Nat → Int32) (fQ4 : Nat → Int32) (lK : Int32) (fK1 : Nat → Int32) (fK2 : Nat → Int32) (lx : Int32) (fx : Nat → Int32) (fr : Int32) (n : Int32) (g_pr : 0 ≤ pr.toInt ∧ pr.toInt ≤ 1000) (g_lK : 0 ≤ lK.toInt ∧ lK.toInt ≤ 300) (g_lx : 0 ≤ lx.toInt ∧ lx.toInt ≤ 300) (g_fr : 0 ≤ fr.toInt ∧ fr.toInt ≤ 59) (g_n : 1 ≤ n.toInt ∧ n.toInt ≤ 60) (hfn : fr.toInt < n.toInt) (hnl : n.toInt ≤ lx.toInt) (hlt : prg lx.toInt 0 65535 fx) (hq : QOK (n.toNatClampNeg : Int) (fr.toNatClampNeg : Int) fQ1 fQ2) (hm1 : fQ1 fr.toNatClampNeg = -1) (hT : HT 1024 1023 hsK fK1 fK2) (ho : (occ fK2 1024 : Int) ≤ lK.toInt) (hV : prg 1024 (-1) 200 fK2) : Met l yX6_tryAsItIs wsX6_tryAsItIs ({ frames := 3, cells := 0, slots := 0, locals := 73 } : Room) (va_Pc [.ref oQ, .int fr, .ref nx, .int n] (fun U => U.heap.size = sz ∧ va_P (dC, dI) vwCl [(oQ, .inr (6, [.ref oC, .ref oH, .ref oK, .ref oE, .ref nq, .ref np, .ref nv, .ref q1, .ref q2, .ref q3, .ref q4, .int pr])), (q1, .inl (cI, 61, .inl fQ1)), (q2, .inl (cI, 61, .inl fQ2)), (q3, .inl (cI, 61, .inl fQ3)), (q4, .inl (cI, 61, .inl fQ4)), (oK, .inr (3, [.ref k1, .ref k2, .int lK])), (k1, .inl (cI, 1024, .inl fK1)), (k2, .inl (cI, 1024, .inl fK2)), (nx, .inr (5, [.ref ax, .int lx])), (ax, .inl (cI, 300, .inl fx))] U.heap ∧ va_K (dC, dI) vwCl [(cI, .int), (cS, .short)] U ∧ va_D (fun _ => True) [(oQ, .inr (6, [.ref oC, .ref oH, .ref oK, .ref oE, .ref nq, .ref np, .ref nv, .ref q1, .ref q2, .ref q3, .ref q4, .int pr])), (q1, .inl (cI, 61, .inl fQ1)), (q2, .inl (cI, 61, .inl fQ2)), (q3, .inl (cI, 61, .inl fQ3)), (q4, .inl (cI, 61, .inl fQ4)), (oK, .inr (3, [.ref k1, .ref k2, .int lK])), (k1, .inl (cI, 1024, .inl fK1)), (k2, .inl (cI, 1024, .inl fK2)), (nx, .inr (5, [.ref ax, .int lx])), (ax, .inl (cI, 300, .inl fx))])) (va_Qv (fun (_ : Unit) => True) (fun _ t => ∃ (fQ1' : Nat → Int32) (fQ2' : Nat → Int32) (fQ3' : Nat → Int32) (fQ4' : Nat → Int32), va_P (dC, dI) vwCl [(oQ, .inr (6, [.ref oC, .ref oH, .ref oK, .ref oE, .ref nq, .ref np, .ref nv, .ref q1, .ref q2, .ref q3, .ref q4, .int pr])), (q1, .inl (cI, 61, .inl fQ1')), (q2, .inl (cI, 61, .inl fQ2')), (q3, .inl (cI, 61, .inl fQ3')), (q4, .inl (cI, 61, .inl fQ4')), (oK, .inr (3, [.ref k1, .ref k2, .int lK])), (k1, .inl (cI, 1024, .inl fK1)), (k2, .inl (cI, 1024, .inl fK2)), (nx, .inr (5, [.ref ax, .int lx])), (ax, .inl (cI, 300, .inl fx))] t.heap ∧ va_D (va_A [(oQ, .inr (6, [.ref oC, .ref oH, .ref oK, .ref oE, .ref nq, .ref np, .ref nv, .ref q1, .ref q2, .ref q3, .ref q4, .int pr])), (q1, .inl (cI, 61, .inl fQ1)), (q2, .inl (cI, 61, .inl fQ2)), (q3, .inl (cI, 61, .inl fQ3)), (q4, .inl (cI, 61, .inl fQ4)), (oK, .inr (3, [.ref k1, .ref k2, .int lK])), (k1, .inl (cI, 1024, .inl fK1)), (k2, .inl (cI, 1024, .inl fK2)), (nx, .inr (5, [.ref ax, .int lx])), (ax, .inl (cI, 300, .inl fx))] sz) [(oQ, .inr (6, [.ref oC, .ref oH, .ref oK, .ref oE, .ref nq, .ref np, .ref nv, .ref q1, .ref q2, .ref q3, .ref q4, .int pr])), (q1, .inl (cI, 61, .inl fQ1')), (q2, .inl (cI, 61, .inl fQ2')), (q3, .inl (cI, 61, .inl fQ3')), (q4, .inl (cI, 61, .inl fQ4')), (oK, .inr (3, [.ref k1, .ref k2, .int lK])), (k1, .inl (cI, 1024, .inl fK1)), (k2, .inl (cI, 1024, .inl fK2)), (nx, .inr (5, [.ref ax, .int lx])), (ax, .inl (cI, 300, .inl fx))] ∧ (QOK (n.toNatClampNeg : Int) (fr.toNatClampNeg : Int) fQ1' fQ2') ∧ (onlyI fr.toNatClampNeg fQ1 fQ1' fQ2 fQ2' fQ3 fQ3' fQ4 fQ4') ∧ (∀ (U : Nat → Nat → (Nat → Int32) → Nat → (Nat → Int32) → Prop) (z : Nat), okU U → BFS U (tcC fK1 fK2) z n.toNatClampNeg fx pr.toInt (fun _ h => h = -1) fr.toNatClampNeg fQ1' fQ2' fQ3' fQ4')) (va_A [(oQ, .inr (6, [.ref oC, .ref oH, .ref oK, .ref oE, .ref nq, .ref np, .ref nv, .ref q1, .ref q2, .ref q3, .ref q4, .int pr])), (q1, .inl (cI, 61, .inl fQ1)), (q2, .inl (cI, 61, .inl fQ2)), (q3, .inl (cI, 61, .inl fQ3)), (q4, .inl (cI, 61, .inl fQ4)), (oK, .inr (3, [.ref k1, .ref k2, .int lK])), (k1, .inl (cI, 1024, .inl fK1)), (k2, .inl (cI, 1024, .inl fK2)), (nx, .inr (5, [.ref ax, .int lx])), (ax, .inl (cI, 300, .inl fx))] sz)) 0 0 (va_A [(oQ, .inr (6, [.ref oC, .ref oH, .ref oK, .ref oE, .ref nq, .ref np, .ref nv, .ref q1, .ref q2, .ref q3, .ref q4, .int pr])), (q1, .inl (cI, 61, .inl fQ1)), (q2, .inl (cI, 61, .inl fQ2)), (q3, .inl (cI, 61, .inl fQ3)), (q4, .inl (cI, 61, .inl fQ4)), (oK, .inr (3, [.ref k1, .ref k2, .int lK])), (k1, .inl (cI, 1024, .inl fK1)), (k2, .inl (cI, 1024, .inl fK2)), (nx, .inr (5, [.ref ax, .int lx])), (ax, .inl (cI, 300, .inl fx))] sz) := by
  refine Met.ofW (cc := cX6_tryAsItIs) (maxL := 8) (ret := none) (by decide) rfl ?_
  intro p e s m args below meth c s₁ B hml hv
  obtain ⟨rfl, hsz, hP, hK, hD0⟩ := hv
  have hx := B.exec
  have hb := B.bytes
  have hr := B.returns
  have hts := atoms_spec (ws := wsX6_tryAsItIs) B.pre
  have hown : s.vm.findClass RX6 = some m.cls := findClass_of_methodNamed B.named
  have hlocks := B.notSynchronized
  have in_X6 : ∀ w ∈ wsX60, w ∈ wsX6_tryAsItIs := fun _ h => List.mem_cons_of_mem _ (List.mem_append_left _ (List.mem_append_left _ (List.mem_append_right _ (h))))
  subst hsz
  have hD := hD0.self (sz := s.heap.size)
  generalize hAe : va_A [(oQ, .inr (6, [.ref oC, .ref oH, .ref oK, .ref oE, .ref nq, .ref np, .ref nv, .ref q1, .ref q2, .ref q3, .ref q4, .int pr])), (q1, .inl (cI, 61, .inl fQ1)), (q2, .inl (cI, 61, .inl fQ2)), (q3, .inl (cI, 61, .inl fQ3)), (q4, .inl (cI, 61, .inl fQ4)), (oK, .inr (3, [.ref k1, .ref k2, .int lK])), (k1, .inl (cI, 1024, .inl fK1)), (k2, .inl (cI, 1024, .inl fK2)), (nx, .inr (5, [.ref ax, .int lx])), (ax, .inl (cI, 300, .inl fx))] s.heap.size = A at hD ⊢
  have hA : ∀ q : Nat, s.heap.size ≤ q → A q := fun q h => by rw [← hAe]; exact Or.inr h
  have hS : va_S A s.heap s.heap [] := va_S.rf
  have hP : va_P (dC, dI) vwCl [(oQ, .inr (6, [.ref oC, .ref oH, .ref oK, .ref oE, .ref nq, .ref np, .ref nv, .ref q1, .ref q2, .ref q3, .ref q4, .int pr])), (q1, .inl (cI, 61, .inl fQ1)), (q2, .inl (cI, 61, .inl fQ2)), (q3, .inl (cI, 61, .inl fQ3)), (q4, .inl (cI, 61, .inl fQ4)), (oK, .inr (3, [.ref k1, .ref k2, .int lK])), (k1, .inl (cI, 1024, .inl fK1)), (k2, .inl (cI, 1024, .inl fK2)), (nx, .inr (5, [.ref ax, .int lx])), (ax, .inl (cI, 300, .inl fx))] s.heap := hP
  have hl := lv_entry ([.ref oQ, .int fr, .ref nx, .int n]) (n := 8) (Nat.le_of_ble_eq_true rfl)
  rw [lg_entry_eq]
  generalize (lg_sl ([.ref oQ, .int fr, .ref nx, .int n]) ++ List.replicate (8 - (lg_sl ([.ref oQ, .int fr, .ref nx, .int n])).length) Slot.unset).toArray = ls at hl ⊢
  have hl : lv_has ls 8 [(0, .ref oQ), (1, .int fr), (2, .ref nx), (3, .int n)] := hl
  obtain ⟨QQ, hQQ⟩ : ∃ QQ : Array Value → State → Outcome → State → Prop, QQ = va_Qv (fun (_ : Unit) => True) (fun _ t => ∃ (fQ1' : Nat → Int32) (fQ2' : Nat → Int32) (fQ3' : Nat → Int32) (fQ4' : Nat → Int32), va_P (dC, dI) vwCl [(oQ, .inr (6, [.ref oC, .ref oH, .ref oK, .ref oE, .ref nq, .ref np, .ref nv, .ref q1, .ref q2, .ref q3, .ref q4, .int pr])), (q1, .inl (cI, 61, .inl fQ1')), (q2, .inl (cI, 61, .inl fQ2')), (q3, .inl (cI, 61, .inl fQ3')), (q4, .inl (cI, 61, .inl fQ4')), (oK, .inr (3, [.ref k1, .ref k2, .int lK])), (k1, .inl (cI, 1024, .inl fK1)), (k2, .inl (cI, 1024, .inl fK2)), (nx, .inr (5, [.ref ax, .int lx])), (ax, .inl (cI, 300, .inl fx))] t.heap ∧ va_D A [(oQ, .inr (6, [.ref oC, .ref oH, .ref oK, .ref oE, .ref nq, .ref np, .ref nv, .ref q1, .ref q2, .ref q3, .ref q4, .int pr])), (q1, .inl (cI, 61, .inl fQ1')), (q2, .inl (cI, 61, .inl fQ2')), (q3, .inl (cI, 61, .inl fQ3')), (q4, .inl (cI, 61, .inl fQ4')), (oK, .inr (3, [.ref k1, .ref k2, .int lK])), (k1, .inl (cI, 1024, .inl fK1)), (k2, .inl (cI, 1024, .inl fK2)), (nx, .inr (5, [.ref ax, .int lx])), (ax, .inl (cI, 300, .inl fx))] ∧ (QOK (n.toNatClampNeg : Int) (fr.toNatClampNeg : Int) fQ1' fQ2') ∧ (onlyI fr.toNatClampNeg fQ1 fQ1' fQ2 fQ2' fQ3 fQ3' fQ4 fQ4') ∧ (∀ (U : Nat → Nat → (Nat → Int32) → Nat → (Nat → Int32) → Prop) (z : Nat), okU U → BFS U (tcC fK1 fK2) z n.toNatClampNeg fx pr.toInt (fun _ h => h = -1) fr.toNatClampNeg fQ1' fQ2' fQ3' fQ4')) A := ⟨_, rfl⟩
  rw [← hQQ]
  have z0 : (0 : Int32).toInt = 0 := rfl
  have z1 : (1 : Int32).toInt = 1 := rfl
  have zm1 : (-1 : Int32).toInt = -1 := rfl
  have cn9 := v_clamp (x := n) (by omega)
  have cf9 := v_clamp (x := fr) (by omega)
  refine lv_iconst (v := 0) hx hb dX6_tryAsItIs_0 (by decide) ?_
  refine lv_istore (lv' := [(4, .int 0), (0, .ref oQ), (1, .int fr), (2, .ref nx), (3, .int n)]) hx hb dX6_tryAsItIs_1 hl (by decide) rfl (fun ls hl => ?_)
  refine lv_bipush (v := 32) hx hb dX6_tryAsItIs_3 (by decide) ?_
  refine lv_istore (lv' := [(5, .int 32), (4, .int 0), (0, .ref oQ), (1, .int fr), (2, .ref nx), (3, .int n)]) hx hb dX6_tryAsItIs_5 hl (by decide) rfl (fun ls hl => ?_)
  refine lv_iload_n hx hb dX6_tryAsItIs_7 rfl (lv_at hl 3 rfl) ?_
  refine lv_istore (lv' := [(6, .int fr), (5, .int 32), (4, .int 0), (0, .ref oQ), (1, .int fr), (2, .ref nx), (3, .int n)]) hx hb dX6_tryAsItIs_8 hl (by decide) rfl (fun ls hl => ?_)
  have LOOP_10 : ∀ (k_10 : Nat) (su : Int32) (la : Int32) (i : Int32) (fq1a : Nat → Int32) (fq2a : Nat → Int32) (fq3a : Nat → Int32) (fq4a : Nat → Int32) (H : Heap) (locs : List Loc) (ls : Array Slot), (60 - i.toInt : Int).toNat < k_10 → (0 ≤ su.toInt ∧ su.toInt ≤ 12000) → (0 ≤ la.toInt ∧ la.toInt ≤ 65535) → (0 ≤ i.toInt ∧ i.toInt ≤ 60) → (fr.toInt ≤ i.toInt ∧ i.toInt ≤ n.toInt) → (su.toInt ≤ 200 * (i.toInt - fr.toInt)) → (su.toInt = cs (tcC fK1 fK2) (fun k => fx (fr.toNatClampNeg + k)) (i.toInt - (fr.toNatClampNeg : Int)).toNat) → (la = pv (fun k => fx (fr.toNatClampNeg + k)) (i.toInt - (fr.toNatClampNeg : Int)).toNat) → (QOK (n.toNatClampNeg : Int) (fr.toNatClampNeg : Int) fq1a fq2a) → (onlyI fr.toNatClampNeg fQ1 fq1a fQ2 fq2a fQ3 fq3a fQ4 fq4a) → (∀ (U : Nat → Nat → (Nat → Int32) → Nat → (Nat → Int32) → Prop) (z : Nat), okU U → BFS U (tcC fK1 fK2) z n.toNatClampNeg fx pr.toInt (fun j h => h = -1 ∧ (j : Int) ≤ i.toInt) fr.toNatClampNeg fq1a fq2a fq3a fq4a) → va_P (dC, dI) vwCl [(oQ, .inr (6, [.ref oC, .ref oH, .ref oK, .ref oE, .ref nq, .ref np, .ref nv, .ref q1, .ref q2, .ref q3, .ref q4, .int pr])), (q1, .inl (cI, 61, .inl fq1a)), (q2, .inl (cI, 61, .inl fq2a)), (q3, .inl (cI, 61, .inl fq3a)), (q4, .inl (cI, 61, .inl fq4a)), (oK, .inr (3, [.ref k1, .ref k2, .int lK])), (k1, .inl (cI, 1024, .inl fK1)), (k2, .inl (cI, 1024, .inl fK2)), (nx, .inr (5, [.ref ax, .int lx])), (ax, .inl (cI, 300, .inl fx))] H → va_D A [(oQ, .inr (6, [.ref oC, .ref oH, .ref oK, .ref oE, .ref nq, .ref np, .ref nv, .ref q1, .ref q2, .ref q3, .ref q4, .int pr])), (q1, .inl (cI, 61, .inl fq1a)), (q2, .inl (cI, 61, .inl fq2a)), (q3, .inl (cI, 61, .inl fq3a)), (q4, .inl (cI, 61, .inl fq4a)), (oK, .inr (3, [.ref k1, .ref k2, .int lK])), (k1, .inl (cI, 1024, .inl fK1)), (k2, .inl (cI, 1024, .inl fK2)), (nx, .inr (5, [.ref ax, .int lx])), (ax, .inl (cI, 300, .inl fx))] → va_S A s.heap H locs → lv_has ls 8 [(6, .int i), (5, .int la), (4, .int su), (0, .ref oQ), (1, .int fr), (2, .ref nx), (3, .int n)] → W p l e (headSpec wsX6_tryAsItIs ({ frames := 3, cells := 0, slots := 0, locals := 73 } : Room)).room s m ([.ref oQ, .int fr, .ref nx, .int n] : List Value).toArray below meth c H locs 0 0 (MQ below QQ ([.ref oQ, .int fr, .ref nx, .int n] : List Value).toArray s 0 0 A) (F0 m 10 ls []) := by
    intro k_10
    induction k_10 with
    | zero =>
      intro su la i fq1a fq2a fq3a fq4a H locs ls hm_10 g_su g_la g_i hif hs2 hsu hbe hqk hon hbf hP hD hS hl
      exact absurd hm_10 (Nat.not_lt_zero _)
    | succ k_10 ih_10 =>
      intro su la i fq1a fq2a fq3a fq4a H locs ls hm_10 g_su g_la g_i hif hs2 hsu hbe hqk hon hbf hP hD hS hl
      refine lv_iload hx hb dX6_tryAsItIs_10 (lv_at hl 0 rfl) ?_
      refine lv_iload_n hx hb dX6_tryAsItIs_12 rfl (lv_at hl 6 rfl) ?_
      refine lv_icmp_ge (tgt := 74) hx hb dX6_tryAsItIs_13 (by decide) (fun c_1 => ?_) (fun c_1 => ?_)
      · have tc_1 : n.toInt ≤ i.toInt := v_le c_1
        have hP9 := hP.sub (ws' := [(oQ, .inr (6, [.ref oC, .ref oH, .ref oK, .ref oE, .ref nq, .ref np, .ref nv, .ref q1, .ref q2, .ref q3, .ref q4, .int pr])), (q1, .inl (cI, 61, .inl fq1a)), (q2, .inl (cI, 61, .inl fq2a)), (q3, .inl (cI, 61, .inl fq3a)), (q4, .inl (cI, 61, .inl fq4a)), (oK, .inr (3, [.ref k1, .ref k2, .int lK])), (k1, .inl (cI, 1024, .inl fK1)), (k2, .inl (cI, 1024, .inl fK2)), (nx, .inr (5, [.ref ax, .int lx])), (ax, .inl (cI, 300, .inl fx))]) [0, 1, 2, 3, 4, 5, 6, 7, 8, 9] rfl
        have hD9 := hD.sub (ws' := [(oQ, .inr (6, [.ref oC, .ref oH, .ref oK, .ref oE, .ref nq, .ref np, .ref nv, .ref q1, .ref q2, .ref q3, .ref q4, .int pr])), (q1, .inl (cI, 61, .inl fq1a)), (q2, .inl (cI, 61, .inl fq2a)), (q3, .inl (cI, 61, .inl fq3a)), (q4, .inl (cI, 61, .inl fq4a)), (oK, .inr (3, [.ref k1, .ref k2, .int lK])), (k1, .inl (cI, 1024, .inl fK1)), (k2, .inl (cI, 1024, .inl fK2)), (nx, .inr (5, [.ref ax, .int lx])), (ax, .inl (cI, 300, .inl fx))]) [0, 1, 2, 3, 4, 5, 6, 7, 8, 9] (by decide) rfl
        rw [hQQ]
        exact W.vret hx hb hr (fun t ht hW => ⟨⟨(), rfl, trivial, ⟨fq1a, fq2a, fq3a, fq4a, by rw [ht]; exact hP9, hD9, hqk, hon, fun U z hU => BFS_A (hbf U z hU) (fun j h s sp c9 => by have c8 := c9.2.1; show h = -1 ↔ (h = -1 ∧ (j : Int) ≤ i.toInt); omega)⟩⟩, hS.F ht⟩) hS.2.2 dX6_tryAsItIs_74
      · have tc_1 : i.toInt < n.toInt := v_nle c_1
        refine lv_aload_n hx hb dX6_tryAsItIs_16 rfl (lv_at hl 5 rfl) ?_
        refine lv_iload hx hb dX6_tryAsItIs_17 (lv_at hl 0 rfl) ?_
        have hPc := hP.sub (ws' := [(nx, .inr (5, [.ref ax, .int lx])), (ax, .inl (cI, 300, .inl fx))]) [8, 9] rfl
        have hDc := hD.sub (ws' := [(nx, .inr (5, [.ref ax, .int lx])), (ax, .inl (cI, 300, .inl fx))]) [8, 9] (by decide) rfl
        have hFc := va_free (wc := [(nx, .inr (5, [.ref ax, .int lx])), (ax, .inl (cI, 300, .inl fx))]) hD hS hA [8, 9] rfl
        refine va_calli (va_runV (As := [.int i]) (rest := []) ⟨hx, hb, hml, hown, hts⟩ (m_X5_get l dC dI cI cS H.size nx ax 300 lx fx i (by omega) (by omega)) (cwV 1 hts gX6_tryAsItIs_X5_get rfl rfl rfl (by decide +kernel) ⟨Nat.le_of_ble_eq_true rfl, Nat.le_of_ble_eq_true rfl⟩) ⟨fun a U g mk q => by obtain ⟨q0, q1, qP, qK, qD⟩ := q; exact ⟨q0, q1, qP, va_K.moved (u := U) (U := U.calling g mk a) (Vm.Alike.refl U.vm) qK, qD⟩, va_recv hK hPc (ci := 5) (q0 := 0) rfl rfl, fun U hU hW => ⟨rfl, by rw [hU], by rw [hU]; exact hPc, va_K.moved hW.alike hK, hDc.weaken (fun _ _ _ _ => trivial)⟩⟩ rfl rfl hl.1 rfl (lv_room (Nat.le_of_ble_eq_true rfl)) dX6_tryAsItIs_19 ⟨Nat.le_of_ble_eq_true rfl, Nat.le_of_ble_eq_true rfl⟩) hS (fun q _ h => hFc q h) hFc (fun r_2 u t H1 locs ht hvm hw hB hz1 hk1 hS => ?_)
        subst hw
        obtain ⟨hP1, hD1, hf2_0⟩ := hB
        rw [ht] at hP1
        obtain ⟨hP, hD⟩ := va_join (wr := [(oQ, .inr (6, [.ref oC, .ref oH, .ref oK, .ref oE, .ref nq, .ref np, .ref nv, .ref q1, .ref q2, .ref q3, .ref q4, .int pr])), (q1, .inl (cI, 61, .inl fq1a)), (q2, .inl (cI, 61, .inl fq2a)), (q3, .inl (cI, 61, .inl fq3a)), (q4, .inl (cI, 61, .inl fq4a)), (oK, .inr (3, [.ref k1, .ref k2, .int lK])), (k1, .inl (cI, 1024, .inl fK1)), (k2, .inl (cI, 1024, .inl fK2))]) (w1 := [(nx, .inr (5, [.ref ax, .int lx])), (ax, .inl (cI, 300, .inl fx))]) hP hD [8, 9] [0, 1, 2, 3, 4, 5, 6, 7] rfl rfl (by decide) (by decide) hk1 hFc hP1 hD1
        generalize H1 = H at hP hS ⊢
        have hP : va_P (dC, dI) vwCl [(oQ, .inr (6, [.ref oC, .ref oH, .ref oK, .ref oE, .ref nq, .ref np, .ref nv, .ref q1, .ref q2, .ref q3, .ref q4, .int pr])), (q1, .inl (cI, 61, .inl fq1a)), (q2, .inl (cI, 61, .inl fq2a)), (q3, .inl (cI, 61, .inl fq3a)), (q4, .inl (cI, 61, .inl fq4a)), (oK, .inr (3, [.ref k1, .ref k2, .int lK])), (k1, .inl (cI, 1024, .inl fK1)), (k2, .inl (cI, 1024, .inl fK2)), (nx, .inr (5, [.ref ax, .int lx])), (ax, .inl (cI, 300, .inl fx))] H := hP
        have hD : va_D A [(oQ, .inr (6, [.ref oC, .ref oH, .ref oK, .ref oE, .ref nq, .ref np, .ref nv, .ref q1, .ref q2, .ref q3, .ref q4, .int pr])), (q1, .inl (cI, 61, .inl fq1a)), (q2, .inl (cI, 61, .inl fq2a)), (q3, .inl (cI, 61, .inl fq3a)), (q4, .inl (cI, 61, .inl fq4a)), (oK, .inr (3, [.ref k1, .ref k2, .int lK])), (k1, .inl (cI, 1024, .inl fK1)), (k2, .inl (cI, 1024, .inl fK2)), (nx, .inr (5, [.ref ax, .int lx])), (ax, .inl (cI, 300, .inl fx))] := hD
        have hg2 : r_2 = fx i.toNatClampNeg := F_get_f hf2_0 (by omega) (by omega)
        have hgr2 : 0 ≤ r_2.toInt ∧ r_2.toInt ≤ 65535 := prg_at hlt hg2 (by omega) (by omega)
        refine lv_istore (lv' := [(7, .int r_2), (6, .int i), (5, .int la), (4, .int su), (0, .ref oQ), (1, .int fr), (2, .ref nx), (3, .int n)]) hx hb dX6_tryAsItIs_22 hl (by decide) rfl (fun ls hl => ?_)
        refine lv_iload hx hb dX6_tryAsItIs_24 (lv_at hl 3 rfl) ?_
        refine lv_aload_n hx hb dX6_tryAsItIs_26 rfl (lv_at hl 4 rfl) ?_
        refine va_get (D := (dC, dI)) (ci := 6) (v := .ref oK) (C := RX6) (T := TX6) (N := 12) hx hb hts in_X6 hown hK hP 0 rfl rfl 2 (by decide) (hts (.fieldLink RX6 47 "TextMender$Parting" "costs" "LTextMender$Costs;") (List.mem_of_getElem? (i := 1) rfl)) (fun _ h9 => h9) rfl dX6_tryAsItIs_27 ?_
        refine lv_iload hx hb dX6_tryAsItIs_30 (lv_at hl 2 rfl) ?_
        refine lv_iload hx hb dX6_tryAsItIs_32 (lv_at hl 0 rfl) ?_
        have hPc := hP.sub (ws' := [(oK, .inr (3, [.ref k1, .ref k2, .int lK])), (k1, .inl (cI, 1024, .inl fK1)), (k2, .inl (cI, 1024, .inl fK2))]) [5, 6, 7] rfl
        have hDc := hD.sub (ws' := [(oK, .inr (3, [.ref k1, .ref k2, .int lK])), (k1, .inl (cI, 1024, .inl fK1)), (k2, .inl (cI, 1024, .inl fK2))]) [5, 6, 7] (by decide) rfl
        have hFc := va_free (wc := [(oK, .inr (3, [.ref k1, .ref k2, .int lK])), (k1, .inl (cI, 1024, .inl fK1)), (k2, .inl (cI, 1024, .inl fK2))]) hD hS hA [5, 6, 7] rfl
        refine va_calli (va_runV (As := [.int la, .int r_2]) (rest := [.int su]) ⟨hx, hb, hml, hown, hts⟩ (f_X3_of l dC dI cI cS H.size oK k1 k2 lK fK1 fK2 la r_2 (by omega) (by omega) (by omega) (hT) (ho) (hV)) (cwV 2 hts gX6_tryAsItIs_X3_of rfl rfl rfl (by decide +kernel) ⟨Nat.le_of_ble_eq_true rfl, Nat.le_of_ble_eq_true rfl⟩) ⟨fun a U g mk q => by obtain ⟨q0, q1, qP, qK, qD⟩ := q; exact ⟨q0, q1, qP, va_K.moved (u := U) (U := U.calling g mk a) (Vm.Alike.refl U.vm) qK, qD⟩, va_recv hK hPc (ci := 3) (q0 := 0) rfl rfl, fun U hU hW => ⟨rfl, by rw [hU], by rw [hU]; exact hPc, va_K.moved hW.alike hK, hDc.weaken (fun _ _ _ _ => trivial)⟩⟩ rfl rfl hl.1 rfl (lv_room (Nat.le_of_ble_eq_true rfl)) dX6_tryAsItIs_34 ⟨Nat.le_of_ble_eq_true rfl, Nat.le_of_ble_eq_true rfl⟩) hS (fun q _ h => hFc q h) hFc (fun r_3 u t H1 locs ht hvm hw hB hz1 hk1 hS => ?_)
        subst hw
        obtain ⟨hP1, hD1, hf3_0, hf3_1⟩ := hB
        rw [ht] at hP1
        obtain ⟨hP, hD⟩ := va_join (wr := [(oQ, .inr (6, [.ref oC, .ref oH, .ref oK, .ref oE, .ref nq, .ref np, .ref nv, .ref q1, .ref q2, .ref q3, .ref q4, .int pr])), (q1, .inl (cI, 61, .inl fq1a)), (q2, .inl (cI, 61, .inl fq2a)), (q3, .inl (cI, 61, .inl fq3a)), (q4, .inl (cI, 61, .inl fq4a)), (nx, .inr (5, [.ref ax, .int lx])), (ax, .inl (cI, 300, .inl fx))]) (w1 := [(oK, .inr (3, [.ref k1, .ref k2, .int lK])), (k1, .inl (cI, 1024, .inl fK1)), (k2, .inl (cI, 1024, .inl fK2))]) hP hD [5, 6, 7] [0, 1, 2, 3, 4, 8, 9] rfl rfl (by decide) (by decide) hk1 hFc hP1 hD1
        generalize H1 = H at hP hS ⊢
        have hP : va_P (dC, dI) vwCl [(oQ, .inr (6, [.ref oC, .ref oH, .ref oK, .ref oE, .ref nq, .ref np, .ref nv, .ref q1, .ref q2, .ref q3, .ref q4, .int pr])), (q1, .inl (cI, 61, .inl fq1a)), (q2, .inl (cI, 61, .inl fq2a)), (q3, .inl (cI, 61, .inl fq3a)), (q4, .inl (cI, 61, .inl fq4a)), (nx, .inr (5, [.ref ax, .int lx])), (ax, .inl (cI, 300, .inl fx)), (oK, .inr (3, [.ref k1, .ref k2, .int lK])), (k1, .inl (cI, 1024, .inl fK1)), (k2, .inl (cI, 1024, .inl fK2))] H := hP
        have hD : va_D A [(oQ, .inr (6, [.ref oC, .ref oH, .ref oK, .ref oE, .ref nq, .ref np, .ref nv, .ref q1, .ref q2, .ref q3, .ref q4, .int pr])), (q1, .inl (cI, 61, .inl fq1a)), (q2, .inl (cI, 61, .inl fq2a)), (q3, .inl (cI, 61, .inl fq3a)), (q4, .inl (cI, 61, .inl fq4a)), (nx, .inr (5, [.ref ax, .int lx])), (ax, .inl (cI, 300, .inl fx)), (oK, .inr (3, [.ref k1, .ref k2, .int lK])), (k1, .inl (cI, 1024, .inl fK1)), (k2, .inl (cI, 1024, .inl fK2))] := hD
        refine lv_iadd hx hb dX6_tryAsItIs_37 ?_
        refine lv_topi (fun x_4 ex_4 => ?_)
        have tx_4 : x_4.toInt = su.toInt + r_3.toInt := v_add ex_4 (by show -2147483648 ≤ su.toInt + r_3.toInt; omega) (by show su.toInt + r_3.toInt < 2147483648; omega)
        refine lv_istore (lv' := [(4, .int x_4), (7, .int r_2), (6, .int i), (5, .int la), (0, .ref oQ), (1, .int fr), (2, .ref nx), (3, .int n)]) hx hb dX6_tryAsItIs_38 hl (by decide) rfl (fun ls hl => ?_)
        refine lv_iload hx hb dX6_tryAsItIs_40 (lv_at hl 1 rfl) ?_
        refine lv_istore (lv' := [(5, .int r_2), (4, .int x_4), (7, .int r_2), (6, .int i), (0, .ref oQ), (1, .int fr), (2, .ref nx), (3, .int n)]) hx hb dX6_tryAsItIs_42 hl (by decide) rfl (fun ls hl => ?_)
        refine lv_aload_n hx hb dX6_tryAsItIs_44 rfl (lv_at hl 4 rfl) ?_
        refine lv_iload_n hx hb dX6_tryAsItIs_45 rfl (lv_at hl 5 rfl) ?_
        refine lv_iload hx hb dX6_tryAsItIs_46 (lv_at hl 3 rfl) ?_
        refine lv_iconst (v := 1) hx hb dX6_tryAsItIs_48 (by decide) ?_
        refine lv_iadd hx hb dX6_tryAsItIs_49 ?_
        refine lv_topi (fun x_5 ex_5 => ?_)
        have tx_5 : x_5.toInt = i.toInt + 1 := v_add ex_5 (by show -2147483648 ≤ i.toInt + 1; omega) (by show i.toInt + 1 < 2147483648; omega)
        refine lv_iconst (v := (-1)) hx hb dX6_tryAsItIs_50 (by decide) ?_
        refine lv_iload hx hb dX6_tryAsItIs_51 (lv_at hl 1 rfl) ?_
        refine lv_aload_n hx hb dX6_tryAsItIs_53 rfl (lv_at hl 4 rfl) ?_
        refine va_get (D := (dC, dI)) (ci := 6) (v := .ref oK) (C := RX6) (T := TX6) (N := 12) hx hb hts in_X6 hown hK hP 0 rfl rfl 2 (by decide) (hts (.fieldLink RX6 47 "TextMender$Parting" "costs" "LTextMender$Costs;") (List.mem_of_getElem? (i := 1) rfl)) (fun _ h9 => h9) rfl dX6_tryAsItIs_54 ?_
        refine lv_iload hx hb dX6_tryAsItIs_57 (lv_at hl 2 rfl) ?_
        refine lv_bipush (v := 32) hx hb dX6_tryAsItIs_59 (by decide) ?_
        have hPc := hP.sub (ws' := [(oK, .inr (3, [.ref k1, .ref k2, .int lK])), (k1, .inl (cI, 1024, .inl fK1)), (k2, .inl (cI, 1024, .inl fK2))]) [7, 8, 9] rfl
        have hDc := hD.sub (ws' := [(oK, .inr (3, [.ref k1, .ref k2, .int lK])), (k1, .inl (cI, 1024, .inl fK1)), (k2, .inl (cI, 1024, .inl fK2))]) [7, 8, 9] (by decide) rfl
        have hFc := va_free (wc := [(oK, .inr (3, [.ref k1, .ref k2, .int lK])), (k1, .inl (cI, 1024, .inl fK1)), (k2, .inl (cI, 1024, .inl fK2))]) hD hS hA [7, 8, 9] rfl
        refine va_calli (va_runV (As := [.int r_2, .int 32]) (rest := [.int x_4, .int (-1), .int x_5, .int fr, .ref oQ]) ⟨hx, hb, hml, hown, hts⟩ (f_X3_of l dC dI cI cS H.size oK k1 k2 lK fK1 fK2 r_2 32 (by omega) (by omega) (by decide) (hT) (ho) (hV)) (cwV 2 hts gX6_tryAsItIs_X3_of rfl rfl rfl (by decide +kernel) ⟨Nat.le_of_ble_eq_true rfl, Nat.le_of_ble_eq_true rfl⟩) ⟨fun a U g mk q => by obtain ⟨q0, q1, qP, qK, qD⟩ := q; exact ⟨q0, q1, qP, va_K.moved (u := U) (U := U.calling g mk a) (Vm.Alike.refl U.vm) qK, qD⟩, va_recv hK hPc (ci := 3) (q0 := 0) rfl rfl, fun U hU hW => ⟨rfl, by rw [hU], by rw [hU]; exact hPc, va_K.moved hW.alike hK, hDc.weaken (fun _ _ _ _ => trivial)⟩⟩ rfl rfl hl.1 rfl (lv_room (Nat.le_of_ble_eq_true rfl)) dX6_tryAsItIs_61 ⟨Nat.le_of_ble_eq_true rfl, Nat.le_of_ble_eq_true rfl⟩) hS (fun q _ h => hFc q h) hFc (fun r_6 u t H1 locs ht hvm hw hB hz1 hk1 hS => ?_)
        subst hw
        obtain ⟨hP1, hD1, hf6_0, hf6_1⟩ := hB
        rw [ht] at hP1
        obtain ⟨hP, hD⟩ := va_join (wr := [(oQ, .inr (6, [.ref oC, .ref oH, .ref oK, .ref oE, .ref nq, .ref np, .ref nv, .ref q1, .ref q2, .ref q3, .ref q4, .int pr])), (q1, .inl (cI, 61, .inl fq1a)), (q2, .inl (cI, 61, .inl fq2a)), (q3, .inl (cI, 61, .inl fq3a)), (q4, .inl (cI, 61, .inl fq4a)), (nx, .inr (5, [.ref ax, .int lx])), (ax, .inl (cI, 300, .inl fx))]) (w1 := [(oK, .inr (3, [.ref k1, .ref k2, .int lK])), (k1, .inl (cI, 1024, .inl fK1)), (k2, .inl (cI, 1024, .inl fK2))]) hP hD [7, 8, 9] [0, 1, 2, 3, 4, 5, 6] rfl rfl (by decide) (by decide) hk1 hFc hP1 hD1
        generalize H1 = H at hP hS ⊢
        have hP : va_P (dC, dI) vwCl [(oQ, .inr (6, [.ref oC, .ref oH, .ref oK, .ref oE, .ref nq, .ref np, .ref nv, .ref q1, .ref q2, .ref q3, .ref q4, .int pr])), (q1, .inl (cI, 61, .inl fq1a)), (q2, .inl (cI, 61, .inl fq2a)), (q3, .inl (cI, 61, .inl fq3a)), (q4, .inl (cI, 61, .inl fq4a)), (nx, .inr (5, [.ref ax, .int lx])), (ax, .inl (cI, 300, .inl fx)), (oK, .inr (3, [.ref k1, .ref k2, .int lK])), (k1, .inl (cI, 1024, .inl fK1)), (k2, .inl (cI, 1024, .inl fK2))] H := hP
        have hD : va_D A [(oQ, .inr (6, [.ref oC, .ref oH, .ref oK, .ref oE, .ref nq, .ref np, .ref nv, .ref q1, .ref q2, .ref q3, .ref q4, .int pr])), (q1, .inl (cI, 61, .inl fq1a)), (q2, .inl (cI, 61, .inl fq2a)), (q3, .inl (cI, 61, .inl fq3a)), (q4, .inl (cI, 61, .inl fq4a)), (nx, .inr (5, [.ref ax, .int lx])), (ax, .inl (cI, 300, .inl fx)), (oK, .inr (3, [.ref k1, .ref k2, .int lK])), (k1, .inl (cI, 1024, .inl fK1)), (k2, .inl (cI, 1024, .inl fK2))] := hD
        refine lv_iadd hx hb dX6_tryAsItIs_64 ?_
        refine lv_topi (fun x_7 ex_7 => ?_)
        have tx_7 : x_7.toInt = x_4.toInt + r_6.toInt := v_add ex_7 (by show -2147483648 ≤ x_4.toInt + r_6.toInt; omega) (by show x_4.toInt + r_6.toInt < 2147483648; omega)
        have hPc := hP.sub (ws' := [(oQ, .inr (6, [.ref oC, .ref oH, .ref oK, .ref oE, .ref nq, .ref np, .ref nv, .ref q1, .ref q2, .ref q3, .ref q4, .int pr])), (q1, .inl (cI, 61, .inl fq1a)), (q2, .inl (cI, 61, .inl fq2a)), (q3, .inl (cI, 61, .inl fq3a)), (q4, .inl (cI, 61, .inl fq4a))]) [0, 1, 2, 3, 4] rfl
        have hDc := hD.sub (ws' := [(oQ, .inr (6, [.ref oC, .ref oH, .ref oK, .ref oE, .ref nq, .ref np, .ref nv, .ref q1, .ref q2, .ref q3, .ref q4, .int pr])), (q1, .inl (cI, 61, .inl fq1a)), (q2, .inl (cI, 61, .inl fq2a)), (q3, .inl (cI, 61, .inl fq3a)), (q4, .inl (cI, 61, .inl fq4a))]) [0, 1, 2, 3, 4] (by decide) rfl
        have hFc := va_free (wc := [(oQ, .inr (6, [.ref oC, .ref oH, .ref oK, .ref oE, .ref nq, .ref np, .ref nv, .ref q1, .ref q2, .ref q3, .ref q4, .int pr])), (q1, .inl (cI, 61, .inl fq1a)), (q2, .inl (cI, 61, .inl fq2a)), (q3, .inl (cI, 61, .inl fq3a)), (q4, .inl (cI, 61, .inl fq4a))]) hD hS hA [0, 1, 2, 3, 4] rfl
        refine va_callv (va_runV (As := [.int fr, .int x_5, .int (-1), .int x_7]) (rest := []) ⟨hx, hb, hml, hown, hts⟩ (f_X6_offer l dC dI cI cS H.size oQ oC oH oK oE nq np nv q1 q2 q3 q4 pr fq1a fq2a fq3a fq4a fr x_5 (-1) x_7 (by omega) (by omega) (by omega) (by omega) (by omega) ((QOK_at (en := x_5) hqk (by omega) (by omega) (by omega) (by omega) (by omega)).1) ((QOK_at (en := x_5) hqk (by omega) (by omega) (by omega) (by omega) (by omega)).2)) (cwV 4 hts gX6_tryAsItIs_X6_offer rfl rfl rfl (by decide +kernel) ⟨Nat.le_of_ble_eq_true rfl, Nat.le_of_ble_eq_true rfl⟩) ⟨fun a U g mk q => by obtain ⟨q0, q1, qP, qK, qD⟩ := q; exact ⟨q0, q1, qP, va_K.moved (u := U) (U := U.calling g mk a) (Vm.Alike.refl U.vm) qK, qD⟩, va_recv hK hPc (ci := 6) (q0 := 0) rfl rfl, fun U hU hW => ⟨rfl, by rw [hU], by rw [hU]; exact hPc, va_K.moved hW.alike hK, hDc.weaken (fun _ _ _ _ => trivial)⟩⟩ rfl rfl hl.1 rfl (lv_room (Nat.le_of_ble_eq_true rfl)) dX6_tryAsItIs_65 ⟨Nat.le_of_ble_eq_true rfl, Nat.le_of_ble_eq_true rfl⟩) hS (fun q _ h => hFc q h) hFc (fun u t H1 locs ht hvm hw hB hz1 hk1 hS => ?_)
        obtain ⟨fQ1_8, fQ2_8, fQ3_8, fQ4_8, hP1, hD1, hf8_0⟩ := hB
        rw [ht] at hP1
        obtain ⟨hP, hD⟩ := va_join (wr := [(nx, .inr (5, [.ref ax, .int lx])), (ax, .inl (cI, 300, .inl fx)), (oK, .inr (3, [.ref k1, .ref k2, .int lK])), (k1, .inl (cI, 1024, .inl fK1)), (k2, .inl (cI, 1024, .inl fK2))]) (w1 := [(oQ, .inr (6, [.ref oC, .ref oH, .ref oK, .ref oE, .ref nq, .ref np, .ref nv, .ref q1, .ref q2, .ref q3, .ref q4, .int pr])), (q1, .inl (cI, 61, .inl fQ1_8)), (q2, .inl (cI, 61, .inl fQ2_8)), (q3, .inl (cI, 61, .inl fQ3_8)), (q4, .inl (cI, 61, .inl fQ4_8))]) hP hD [0, 1, 2, 3, 4] [5, 6, 7, 8, 9] rfl rfl (by decide) (by decide) hk1 hFc hP1 hD1
        generalize H1 = H at hP hS ⊢
        have hP : va_P (dC, dI) vwCl [(nx, .inr (5, [.ref ax, .int lx])), (ax, .inl (cI, 300, .inl fx)), (oK, .inr (3, [.ref k1, .ref k2, .int lK])), (k1, .inl (cI, 1024, .inl fK1)), (k2, .inl (cI, 1024, .inl fK2)), (oQ, .inr (6, [.ref oC, .ref oH, .ref oK, .ref oE, .ref nq, .ref np, .ref nv, .ref q1, .ref q2, .ref q3, .ref q4, .int pr])), (q1, .inl (cI, 61, .inl fQ1_8)), (q2, .inl (cI, 61, .inl fQ2_8)), (q3, .inl (cI, 61, .inl fQ3_8)), (q4, .inl (cI, 61, .inl fQ4_8))] H := hP
        have hD : va_D A [(nx, .inr (5, [.ref ax, .int lx])), (ax, .inl (cI, 300, .inl fx)), (oK, .inr (3, [.ref k1, .ref k2, .int lK])), (k1, .inl (cI, 1024, .inl fK1)), (k2, .inl (cI, 1024, .inl fK2)), (oQ, .inr (6, [.ref oC, .ref oH, .ref oK, .ref oE, .ref nq, .ref np, .ref nv, .ref q1, .ref q2, .ref q3, .ref q4, .int pr])), (q1, .inl (cI, 61, .inl fQ1_8)), (q2, .inl (cI, 61, .inl fQ2_8)), (q3, .inl (cI, 61, .inl fQ3_8)), (q4, .inl (cI, 61, .inl fQ4_8))] := hD
        obtain ⟨x_9, ex_9⟩ : ∃ y : Int32, y = i + 1 := ⟨_, rfl⟩
        have tx_9 : x_9.toInt = i.toInt + 1 := v_add ex_9 (by show -2147483648 ≤ i.toInt + 1; omega) (by show i.toInt + 1 < 2147483648; omega)
        refine lv_iinc (v := x_9) (lv' := [(6, .int x_9), (5, .int r_2), (4, .int x_4), (7, .int r_2), (0, .ref oQ), (1, .int fr), (2, .ref nx), (3, .int n)]) hx hb dX6_tryAsItIs_68 hl (k := 3) rfl (by rw [ex_9]; rfl) (by decide) rfl (fun ls hl => ?_)
        refine lv_goto (tgt := 10) hx hb dX6_tryAsItIs_71 (by decide) ?_
        exact ih_10 x_4 r_2 x_9 fQ1_8 fQ2_8 fQ3_8 fQ4_8 _ _ _ (by have hm9 := hm_10; show ((60 - x_9.toInt : Int)).toNat < k_10; omega) (by show 0 ≤ x_4.toInt ∧ x_4.toInt ≤ 12000; omega) (by show 0 ≤ r_2.toInt ∧ r_2.toInt ≤ 65535; omega) (by show 0 ≤ x_9.toInt ∧ x_9.toInt ≤ 60; omega) (by show fr.toInt ≤ x_9.toInt ∧ x_9.toInt ≤ n.toInt; omega) (by show x_4.toInt ≤ 200 * (x_9.toInt - fr.toInt); omega) ((sh_s (i' := x_9) hsu hbe hg2 hf3_1 (by omega) (by omega) (by omega)).1) ((sh_s (i' := x_9) hsu hbe hg2 hf3_1 (by omega) (by omega) (by omega)).2) (QOK_of hf8_0 (by omega) hqk) (only_t hon (only_of hf8_0 (by omega))) (fun U z hU => (BFS_off hU (hbf U z hU) hf8_0 hqk (by omega) (fun j hj => hlt j (by omega)) (by omega) (by omega) (by omega) ⟨by omega, by omega⟩ (c := (x_9.toInt - (fr.toNatClampNeg : Int)).toNat) (g := (fun k => fx (fr.toNatClampNeg + k))) (Or.inl ⟨rfl, by have c9 := v_clamp (x := x_5) (by omega); omega, fun _ _ => rfl⟩) (sh_c (i := x_9) (sh_s hsu hbe hg2 hf3_1 (by omega) (by omega) (by omega)).1 (sh_s hsu hbe hg2 hf3_1 (by omega) (by omega) (by omega)).2 hf6_1 (by omega)) (by omega) (by omega) (fun j2 h2 => by have c9 := v_clamp (x := x_5) (by omega); show (h2 = -1 ∧ (j2 : Int) ≤ x_9.toInt) ↔ ((h2 = -1 ∧ (j2 : Int) ≤ i.toInt) ∨ (j2 = x_5.toNatClampNeg ∧ h2 = (-1 : Int32).toInt)); omega) (fun j2 h2 q9 => by have q8 : h2 = -1 ∧ (j2 : Int) ≤ i.toInt := q9; omega)).1) (hP.sub [5, 6, 7, 8, 9, 2, 3, 4, 0, 1] rfl) (hD.sub [5, 6, 7, 8, 9, 2, 3, 4, 0, 1] (by decide) rfl) hS (lv_sub hl [0, 1, 2, 4, 5, 6, 7] rfl)
  exact LOOP_10 _ 0 32 fr fQ1 fQ2 fQ3 fQ4 _ _ _ (Nat.lt_succ_self _) (by decide) (by decide) (by show 0 ≤ fr.toInt ∧ fr.toInt ≤ 60; omega) (by show fr.toInt ≤ fr.toInt ∧ fr.toInt ≤ n.toInt; omega) (by show 0 ≤ 200 * (fr.toInt - fr.toInt); omega) (by rw [show (fr.toInt - (fr.toNatClampNeg : Int)).toNat = 0 by omega]; rfl) (by rw [show (fr.toInt - (fr.toNatClampNeg : Int)).toNat = 0 by omega]; rfl) (hq) (only_r) (fun U z hU => BFS_0 hm1 (fun j h q9 => by have q8 : h = -1 ∧ (j : Int) ≤ fr.toInt := q9; omega)) hP hD hS (lv_sub hl [0, 1, 2, 3, 4, 5, 6] rfl)
