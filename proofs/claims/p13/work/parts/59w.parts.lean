/-! reading on as bytes grow; spans; the best parting -/
theorem bt_up {g g' : Nat → Int32} {n n' : Int} {k : Nat} (hg : ∀ j : Nat, (j : Int) < n → g j = g' j) (hn : n ≤ n') (hk : (k : Int) < n) : bt g' n' k = bt g n k := by
  rw [bt_in hk, bt_in (by omega), hg k hk]
theorem bt_lt {g : Nat → Int32} {n : Int} {k : Nat} (h : 0 ≤ bt g n k) : (k : Int) < n := by
  rcases bt_c g n k with w | w
  · exact w
  · omega
/-- what bytes tell a letter by, they tell it by when more follow -/
theorem Dec_up {cd : Int32} {L4 L5 g g' : Nat → Int32} {n n' : Int} {p l : Nat} {x : Int32} (hg : ∀ j : Nat, (j : Int) < n → g j = g' j) (hn : n ≤ n') (h : Dec cd L4 L5 g n p l x) : Dec cd L4 L5 g' n' p l x := by
  have hp := Dec_pos h
  obtain ⟨h0, ⟨a1, a2, a3⟩ | ⟨a1, a2⟩ | ⟨a1, a2⟩⟩ := h
  · exact ⟨by omega, Or.inl ⟨a1, by rw [← hg p h0]; exact a2, a3⟩⟩
  · refine ⟨by omega, Or.inr (Or.inl ⟨a1, ?_⟩)⟩
    unfold DMa at a2 ⊢
    have e0 := bt_up (k := p) hg hn (by omega)
    have e1 := bt_up (k := p + 1) hg hn (by unfold DM at a2; omega)
    rw [e0, e1]
    by_cases w : (p : Int) + 2 < n
    · rw [bt_up (k := p + 2) hg hn (by omega)]; exact a2
    · have e2 : bt g n (p + 2) = -1 := bt_out (by omega)
      rw [e2] at a2
      unfold DM at a2 ⊢
      omega
  · refine ⟨by omega, Or.inr (Or.inr ⟨a1, ?_⟩)⟩
    unfold DNa at a2 ⊢
    have e0 := bt_up (k := p) hg hn (by omega)
    have u : ∀ k : Nat, (k : Int) < n → bt g' n' k = bt g n k := fun k hk => bt_up hg hn hk
    have o : ∀ k : Nat, n ≤ (k : Int) → bt g n k = -1 := fun k hk => bt_out hk
    unfold DN at a2 ⊢
    rw [e0]
    have b1 := bt_lt (g := g) (n := n) (k := p + 1) (by omega)
    have b2 := bt_lt (g := g) (n := n) (k := p + 2) (by omega)
    have b3 := bt_lt (g := g) (n := n) (k := p + 3) (by omega)
    have b4 := bt_lt (g := g) (n := n) (k := p + 4) (by omega)
    rw [u _ b1, u _ b2, u _ b3, u _ b4]
    by_cases w5 : ((p + 5 : Nat) : Int) < n
    · rw [u _ w5]
      by_cases w6 : ((p + 6 : Nat) : Int) < n
      · rw [u _ w6]
        by_cases w7 : ((p + 7 : Nat) : Int) < n
        · rw [u _ w7]; exact a2
        · have q := o (p + 7) (by omega)
          rw [q] at a2
          omega
      · have q := o (p + 6) (by omega)
        rw [q] at a2
        omega
    · have q := o (p + 5) (by omega)
      rw [q] at a2
      omega
theorem dl_up {cd : Int32} {L4 L5 g g' : Nat → Int32} {n n' : Int} {p : Nat} (hg : ∀ j : Nat, (j : Int) < n → g j = g' j) (hn : n ≤ n') (h : ¬ dl cd L4 L5 g n p = 0) : dl cd L4 L5 g' n' p = dl cd L4 L5 g n p ∧ dx cd L4 L5 g' n' p = dx cd L4 L5 g n p := dl_of (Dec_up hg hn (dl_ex h))
theorem psn_up {D D' : Nat → Nat} {c : Nat} (h : gdD D c) (hD : ∀ p, ¬ D p = 0 → D' p = D p) : ∀ i, i ≤ c → psn D' i = psn D i
  | 0, _ => rfl
  | i + 1, hi => by
    have a := psn_up h hD i (by omega)
    rw [psn, psn, a, hD _ (h i (by omega))]
theorem gd_up {D D' : Nat → Nat} {c : Nat} (h : gdD D c) (hD : ∀ p, ¬ D p = 0 → D' p = D p) : gdD D' c := fun i hi => by
  rw [psn_up h hD i (by omega), hD _ (h i hi)]
  exact h i hi
theorem psn_ge {D : Nat → Nat} {c : Nat} (h : gdD D c) : ∀ i, i ≤ c → i ≤ psn D i
  | 0, _ => Nat.zero_le _
  | i + 1, hi => by
    have a := psn_ge h i (by omega)
    have b := h i (by omega)
    rw [psn]; omega
/-- a Reading: so many letters were read so far -/
def RS (T : Int32 → Int32 → Int32) (re la su le : Int32) (D : Nat → Nat) (X : Nat → Int32) : Prop := ∃ c : Nat, re.toInt = psn D c ∧ gdD D c ∧ le.toInt = c ∧ la = pv (fun i => X (psn D i)) c ∧ su.toInt = cs T (fun i => X (psn D i)) c
theorem RS_0 {T : Int32 → Int32 → Int32} {re la su le : Int32} {D : Nat → Nat} {X : Nat → Int32} (h1 : re.toInt = 0) (h2 : la = 32) (h3 : su.toInt = 0) (h4 : le.toInt = 0) : RS T re la su le D X := ⟨0, by rw [h1]; rfl, fun i hi => absurd hi (Nat.not_lt_zero i), by rw [h4]; rfl, h2, by rw [h3]; rfl⟩
theorem cs_eq {T : Int32 → Int32 → Int32} {f g : Nat → Int32} : ∀ i, (∀ j, j < i → f j = g j) → cs T f i = cs T g i ∧ pv f i = pv g i
  | 0, _ => ⟨rfl, rfl⟩
  | i + 1, h => by
    obtain ⟨a1, a2⟩ := cs_eq (T := T) (f := f) (g := g) i (fun j hj => h j (by omega))
    have e := h i (by omega)
    exact ⟨by rw [cs, cs, a1, a2, e], e⟩
theorem RS_up {T : Int32 → Int32 → Int32} {re la su le : Int32} {D D' : Nat → Nat} {X X' : Nat → Int32} (h : RS T re la su le D X) (hD : ∀ p, ¬ D p = 0 → D' p = D p ∧ X' p = X p) : RS T re la su le D' X' := by
  obtain ⟨c, h1, h2, h3, h4, h5⟩ := h
  have q := psn_up h2 (fun p hp => (hD p hp).1)
  obtain ⟨e1, e2⟩ := cs_eq (T := T) (f := fun i => X (psn D i)) (g := fun i => X' (psn D' i)) c (fun j hj => by
    show X (psn D j) = X' (psn D' j)
    rw [q j (by omega), (hD _ (h2 j hj)).2])
  exact ⟨c, by rw [q c (Nat.le_refl _)]; exact h1, gd_up h2 (fun p hp => (hD p hp).1), h3, by rw [← e2]; exact h4, by rw [← e1]; exact h5⟩
def F_s8 (r re re' la la' su su' le le' : Int32) (T : Int32 → Int32 → Int32) (D : Nat → Nat) (X : Nat → Int32) : Prop := (r = 1 ∧ ¬ D re.toNatClampNeg = 0 ∧ re'.toInt = re.toInt + D re.toNatClampNeg ∧ la' = X re.toNatClampNeg ∧ su'.toInt = su.toInt + cF (T la (X re.toNatClampNeg)) la (X re.toNatClampNeg) ∧ le'.toInt = le.toInt + 1) ∨ (r = 0 ∧ D re.toNatClampNeg = 0 ∧ re' = re ∧ la' = la ∧ su' = su ∧ le' = le)
theorem RS_s {T : Int32 → Int32 → Int32} {r re re' la la' su su' le le' : Int32} {D : Nat → Nat} {X : Nat → Int32} (h : RS T re la su le D X) (hs : F_s8 r re re' la la' su su' le le' T D X) : RS T re' la' su' le' D X := by
  rcases hs with ⟨-, s1, s2, s3, s4, s5⟩ | ⟨-, -, s1, s2, s3, s4⟩
  · obtain ⟨c, h1, h2, h3, h4, h5⟩ := h
    have e : re.toNatClampNeg = psn D c := ix_eq h1
    rw [e] at s1 s2 s3 s4
    refine ⟨c + 1, by rw [psn]; omega, gdD_s h2 s1, by omega, s3, ?_⟩
    rw [cs, ← h4, ← h5]
    exact s4
  · rw [s1, s2, s3, s4]; exact h
theorem RS_b {T : Int32 → Int32 → Int32} {re la su le : Int32} {D : Nat → Nat} {X : Nat → Int32} (h : RS T re la su le D X) : 0 ≤ le.toInt ∧ le.toInt ≤ re.toInt := by
  obtain ⟨c, h1, h2, h3, h4, h5⟩ := h
  have := psn_ge h2 c (Nat.le_refl _)
  omega
/-- the letters of a span, as they are or with harm h undone -/
def SPN (U : Nat → Nat → (Nat → Int32) → Nat → (Nat → Int32) → Prop) (f : Nat → Int32) (i j : Nat) (h : Int) (c : Nat) (f' : Nat → Int32) : Prop := (h = -1 ∧ c = j - i ∧ ∀ k, k < c → f' k = f (i + k)) ∨ (0 ≤ h ∧ U h.toNat (j - i) (fun k => f (i + k)) c f')
/-- a span that may stand first in what lies behind i, with all that it costs -/
def cnd (U : Nat → Nat → (Nat → Int32) → Nat → (Nat → Int32) → Prop) (T : Int32 → Int32 → Int32) (z n : Nat) (f : Nat → Int32) (pr : Int) (C S : Nat → Int32) (i j : Nat) (h s sp : Int) : Prop := i < j ∧ j ≤ n ∧ -1 ≤ h ∧ h < z ∧ (∃ (c : Nat) (f' : Nat → Int32), SPN U f i j h c f' ∧ s = cT T c f' + (if j < n then pr + (C j).toInt else 0)) ∧ sp = 1 + (if j < n then (S j).toInt else 0)
def LE4 (c s e h c' s' e' h' : Int) : Prop := c < c' ∨ (c = c' ∧ (s < s' ∨ (s = s' ∧ (e' < e ∨ (e = e' ∧ h ≤ h')))))
/-- the best of those in A that stand first at i -/
def bst (U : Nat → Nat → (Nat → Int32) → Nat → (Nat → Int32) → Prop) (T : Int32 → Int32 → Int32) (z n : Nat) (f : Nat → Int32) (pr : Int) (C S : Nat → Int32) (A : Nat → Int → Prop) (i e : Nat) (h s sp : Int) : Prop := cnd U T z n f pr C S i e h s sp ∧ A e h ∧ ∀ (j : Nat) (h' s' sp' : Int), A j h' → cnd U T z n f pr C S i j h' s' sp' → LE4 s sp e h s' sp' j h'
/-- at each place from m on the best stands -/
def PBK (U : Nat → Nat → (Nat → Int32) → Nat → (Nat → Int32) → Prop) (T : Int32 → Int32 → Int32) (z n : Nat) (f : Nat → Int32) (pr : Int) (m : Int) (C S E H : Nat → Int32) : Prop := ∀ i : Nat, m ≤ i → i < n → 0 ≤ (E i).toInt ∧ bst U T z n f pr C S (fun _ _ => True) i (E i).toInt.toNat (H i).toInt (C i).toInt (S i).toInt
section PRT
variable {U V : Nat → Nat → (Nat → Int32) → Nat → (Nat → Int32) → Prop} {T T' : Int32 → Int32 → Int32}
theorem cnd_cg {z n : Nat} {f : Nat → Int32} {pr : Int} {C S C' S' : Nat → Int32} {i j : Nat} {h s sp : Int} (hC : ∀ k, i < k → k < n → C k = C' k ∧ S k = S' k) (a : cnd U T z n f pr C S i j h s sp) : cnd U T z n f pr C' S' i j h s sp := by
  obtain ⟨a1, a2, a3, a4, ⟨c, f', a5, a6⟩, a7⟩ := a
  by_cases w : j < n
  · obtain ⟨q1, q2⟩ := hC j a1 w
    rw [if_pos w] at a6 a7
    exact ⟨a1, a2, a3, a4, ⟨c, f', a5, by rw [if_pos w, ← q1]; exact a6⟩, by rw [if_pos w, ← q2]; exact a7⟩
  · rw [if_neg w] at a6 a7
    exact ⟨a1, a2, a3, a4, ⟨c, f', a5, by rw [if_neg w]; exact a6⟩, by rw [if_neg w]; exact a7⟩
theorem LE4_as {c s e h c' s' e' h' : Int} (a : LE4 c s e h c' s' e' h') (b : LE4 c' s' e' h' c s e h) : c = c' ∧ s = s' ∧ e = e' ∧ h = h' := by
  unfold LE4 at a b
  omega
/-- there is one best parting -/
theorem PBK_u {z n : Nat} {f : Nat → Int32} {pr m : Int} {C S E H C' S' E' H' : Nat → Int32} (a : PBK U T z n f pr m C S E H) (b : PBK U T z n f pr m C' S' E' H') : ∀ d i : Nat, i + d = n → m ≤ i → ∀ k, i ≤ k → k < n → C k = C' k ∧ S k = S' k ∧ E k = E' k ∧ H k = H' k := by
  intro d
  induction d with
  | zero => intro i h1 h2 k h3 h4; omega
  | succ d ih =>
    intro i h1 h2 k h3 h4
    have up := ih (i + 1) (by omega) (by omega)
    by_cases w : k = i
    · subst w
      obtain ⟨a0, a1, a2, a3⟩ := a k h2 (by omega)
      obtain ⟨b0, b1, b2, b3⟩ := b k h2 (by omega)
      have cg1 : ∀ q, k < q → q < n → C q = C' q ∧ S q = S' q := fun q q1 q2 => ⟨(up q (by omega) q2).1, (up q (by omega) q2).2.1⟩
      have cg2 : ∀ q, k < q → q < n → C' q = C q ∧ S' q = S q := fun q q1 q2 => ⟨(cg1 q q1 q2).1.symm, (cg1 q q1 q2).2.symm⟩
      have l1 := a3 _ _ _ _ trivial (cnd_cg cg2 b1)
      have l2 := b3 _ _ _ _ trivial (cnd_cg cg1 a1)
      obtain ⟨e1, e2, e3, e4⟩ := LE4_as l1 l2
      exact ⟨v_inj e1, v_inj e2, v_inj (by omega), v_inj e4⟩
    · exact up k (by omega) h4
/-- one more is offered: the best of those seen stays the best -/
theorem bst_add {z n : Nat} {f : Nat → Int32} {pr : Int} {C S : Nat → Int32} {A A' : Nat → Int → Prop} {i e j : Nat} {h s sp h' : Int} (b : bst U T z n f pr C S A i e h s sp) (hA : ∀ j2 h2, A' j2 h2 ↔ (A j2 h2 ∨ (j2 = j ∧ h2 = h'))) (hk : ∀ s' sp', cnd U T z n f pr C S i j h' s' sp' → LE4 s sp e h s' sp' j h') : bst U T z n f pr C S A' i e h s sp := by
  obtain ⟨b1, b2, b3⟩ := b
  refine ⟨b1, (hA _ _).mpr (Or.inl b2), fun j2 h2 s2 sp2 a2 c2 => ?_⟩
  rcases (hA _ _).mp a2 with w | ⟨w1, w2⟩
  · exact b3 _ _ _ _ w c2
  · subst w1
    subst w2
    exact hk _ _ c2
theorem bst_new {z n : Nat} {f : Nat → Int32} {pr : Int} {C S : Nat → Int32} {A A' : Nat → Int → Prop} {i j : Nat} {s' sp' h' : Int} (hA : ∀ j2 h2, A' j2 h2 ↔ (A j2 h2 ∨ (j2 = j ∧ h2 = h'))) (hc : cnd U T z n f pr C S i j h' s' sp') (hu : ∀ s2 sp2, cnd U T z n f pr C S i j h' s2 sp2 → s2 = s' ∧ sp2 = sp') (ho : (∀ j2 h2 s2 sp2, A j2 h2 → ¬ cnd U T z n f pr C S i j2 h2 s2 sp2) ∨ ∃ (e : Nat) (h s sp : Int), bst U T z n f pr C S A i e h s sp ∧ LE4 s' sp' j h' s sp e h) : bst U T z n f pr C S A' i j h' s' sp' := by
  refine ⟨hc, (hA _ _).mpr (Or.inr ⟨rfl, rfl⟩), fun j2 h2 s2 sp2 a2 c2 => ?_⟩
  rcases (hA _ _).mp a2 with w | ⟨w1, w2⟩
  · rcases ho with ho | ⟨e, h, s, sp, b, l⟩
    · exact absurd c2 (ho _ _ _ _ w)
    · have l2 := b.2.2 _ _ _ _ w c2
      unfold LE4 at l l2 ⊢
      omega
  · subst w1
    subst w2
    obtain ⟨q1, q2⟩ := hu _ _ c2
    unfold LE4
    omega
theorem SPN_u (hU : okU U) {f f1 f2 : Nat → Int32} {i j c c' : Nat} {h : Int} (hf : prg j 0 65535 f) (a : SPN U f i j h c f1) (b : SPN U f i j h c' f2) : c = c' ∧ ∀ k, k < c → f1 k = f2 k := by
  rcases a with ⟨a1, a2, a3⟩ | ⟨a1, a2⟩ <;> rcases b with ⟨b1, b2, b3⟩ | ⟨b1, b2⟩
  · exact ⟨by omega, fun k hk => (a3 k hk).trans (b3 k (by omega)).symm⟩
  · omega
  · omega
  · exact hU.1 _ _ _ _ _ _ _ (fun k hk => hf (i + k) (by omega)) a2 b2
theorem SPN_r (hU : okU U) {f f' : Nat → Int32} {i j c : Nat} {h : Int} (hj : j ≤ 300) (hf : prg j 0 65535 f) (a : SPN U f i j h c f') : c ≤ 300 ∧ prg c 0 65535 f' := by
  rcases a with ⟨a1, a2, a3⟩ | ⟨a1, a2⟩
  · exact ⟨by omega, fun k hk => by rw [a3 k (by omega)]; exact hf (i + k) (by omega)⟩
  · exact hU.2.2.1 _ _ _ _ _ (fun k hk => hf (i + k) (by omega)) a2
theorem cnd_u (hU : okU U) {z n : Nat} {f : Nat → Int32} {pr : Int} {C S : Nat → Int32} {i j : Nat} {h s sp s' sp' : Int} (hn : n ≤ 300) (hf : prg n 0 65535 f) (a : cnd U T z n f pr C S i j h s sp) (b : cnd U T z n f pr C S i j h s' sp') : s = s' ∧ sp = sp' := by
  obtain ⟨a1, a2, a3, a4, ⟨c, f1, a5, a6⟩, a7⟩ := a
  obtain ⟨b1, b2, b3, b4, ⟨c', f2, b5, b6⟩, b7⟩ := b
  have hj : prg j 0 65535 f := fun k hk => hf k (by omega)
  obtain ⟨q1, q2⟩ := SPN_u hU hj a5 b5
  have e : cT T c f1 = cT T c' f2 := cT_congr (by rw [q1]) (by omega) (fun _ _ _ _ _ _ => rfl) (SPN_r hU (by omega) hj a5).2 (fun k hk => q2 k (by omega))
  exact ⟨by rw [a6, b6, e], by rw [a7, b7]⟩
theorem SPN_iff {z n : Nat} {f g f' : Nat → Int32} {i j c : Nat} {h : Int} (hj : j ≤ n) (hh : h < z) (hf : prg n 0 65535 f) (hfg : ∀ k, k < n → f k = g k) (hV : okU V) (he : ∀ h, h < z → ∀ (n c : Nat) (f f' : Nat → Int32), prg n 0 65535 f → (U h n f c f' ↔ V h n f c f')) : SPN U f i j h c f' ↔ SPN V g i j h c f' := by
  have s1 : prg ((j - i : Nat) : Int) 0 65535 (fun k => f (i + k)) := fun k hk => hf (i + k) (by omega)
  constructor
  · rintro (⟨a1, a2, a3⟩ | ⟨a1, a2⟩)
    · exact Or.inl ⟨a1, a2, fun k hk => by rw [a3 k hk, hfg _ (by omega)]⟩
    · exact Or.inr ⟨a1, hV.2.1 _ _ _ _ _ _ (fun k hk => hfg _ (by omega)) ((he _ (by omega) _ _ _ _ s1).mp a2)⟩
  · rintro (⟨a1, a2, a3⟩ | ⟨a1, a2⟩)
    · exact Or.inl ⟨a1, a2, fun k hk => by rw [a3 k hk, hfg _ (by omega)]⟩
    · exact Or.inr ⟨a1, (he _ (by omega) _ _ _ _ s1).mpr (hV.2.1 _ _ _ _ _ _ (fun k hk => (hfg _ (by omega)).symm) a2)⟩
theorem cnd_iff (hU : okU U) {z n : Nat} {f g : Nat → Int32} {pr : Int} {C S : Nat → Int32} {i j : Nat} {h s sp : Int} (hn : n ≤ 300) (hf : prg n 0 65535 f) (hfg : ∀ k, k < n → f k = g k) (hV : okU V) (he : ∀ h, h < z → ∀ (n c : Nat) (f f' : Nat → Int32), prg n 0 65535 f → (U h n f c f' ↔ V h n f c f')) (hT : ∀ x y : Int32, 0 ≤ x.toInt → x.toInt ≤ 65535 → 0 ≤ y.toInt → y.toInt ≤ 65535 → T x y = T' x y) : cnd U T z n f pr C S i j h s sp ↔ cnd V T' z n g pr C S i j h s sp := by
  have ct : ∀ {c : Nat} {f' : Nat → Int32}, j ≤ n → SPN U f i j h c f' → cT T c f' = cT T' c f' := fun {c f'} hj a => cT_congr rfl (by omega) hT (SPN_r hU (by omega) (fun k hk => hf k (by omega)) a).2 (fun _ _ => rfl)
  constructor
  · rintro ⟨a1, a2, a3, a4, ⟨c, f', a5, a6⟩, a7⟩
    exact ⟨a1, a2, a3, a4, ⟨c, f', (SPN_iff a2 a4 hf hfg hV he).mp a5, by rw [← ct a2 a5]; exact a6⟩, a7⟩
  · rintro ⟨a1, a2, a3, a4, ⟨c, f', a5, a6⟩, a7⟩
    have a5' := (SPN_iff (U := U) a2 a4 hf hfg hV he).mpr a5
    exact ⟨a1, a2, a3, a4, ⟨c, f', a5', by rw [ct a2 a5']; exact a6⟩, a7⟩
theorem PBK_iff (hU : okU U) {z n : Nat} {f g : Nat → Int32} {pr m : Int} {C S E H : Nat → Int32} (hn : n ≤ 300) (hf : prg n 0 65535 f) (hfg : ∀ k, k < n → f k = g k) (hV : okU V) (he : ∀ h, h < z → ∀ (n c : Nat) (f f' : Nat → Int32), prg n 0 65535 f → (U h n f c f' ↔ V h n f c f')) (hT : ∀ x y : Int32, 0 ≤ x.toInt → x.toInt ≤ 65535 → 0 ≤ y.toInt → y.toInt ≤ 65535 → T x y = T' x y) : PBK U T z n f pr m C S E H ↔ PBK V T' z n g pr m C S E H := by
  constructor
  · intro a i h1 h2
    obtain ⟨a0, a1, a2, a3⟩ := a i h1 h2
    exact ⟨a0, (cnd_iff hU hn hf hfg hV he hT).mp a1, trivial, fun j h' s' sp' _ c2 => a3 j h' s' sp' trivial ((cnd_iff hU hn hf hfg hV he hT).mpr c2)⟩
  · intro a i h1 h2
    obtain ⟨a0, a1, a2, a3⟩ := a i h1 h2
    exact ⟨a0, (cnd_iff hU hn hf hfg hV he hT).mpr a1, trivial, fun j h' s' sp' _ c2 => a3 j h' s' sp' trivial ((cnd_iff hU hn hf hfg hV he hT).mp c2)⟩
/-- k spans laid one behind another: up to the place i, a letters -/
def RCH (U : Nat → Nat → (Nat → Int32) → Nat → (Nat → Int32) → Prop) (n : Nat) (f : Nat → Int32) (E H : Nat → Int32) : Nat → Nat → Nat → (Nat → Int32) → Prop
  | 0, i, a, _ => i = 0 ∧ a = 0
  | k + 1, i, a, fm => ∃ (i0 a0 m : Nat) (g : Nat → Int32), RCH U n f E H k i0 a0 fm ∧ i0 < n ∧ SPN U f i0 (E i0).toInt.toNat (H i0).toInt m g ∧ (∀ q, q < m → fm (a0 + q) = g q) ∧ i = (E i0).toInt.toNat ∧ a = a0 + m
theorem RCH_f {n : Nat} {f E H fm fm' : Nat → Int32} : ∀ (k i a : Nat), (∀ q, q < a → fm q = fm' q) → RCH U n f E H k i a fm → RCH U n f E H k i a fm'
  | 0, _, _, _, h => h
  | k + 1, i, a, e, ⟨i0, a0, m, g, h1, h2, h3, h4, h5, h6⟩ => ⟨i0, a0, m, g, RCH_f k _ _ (fun q hq => e q (by omega)) h1, h2, h3, fun q hq => by rw [← e _ (by omega)]; exact h4 q hq, h5, h6⟩
theorem RCH_u (hU : okU U) {n : Nat} {f E H fm fm' : Nat → Int32} (hf : prg n 0 65535 f) (hE : ∀ i, i < n → (E i).toInt.toNat ≤ n) : ∀ (k i a i' a' : Nat), RCH U n f E H k i a fm → RCH U n f E H k i' a' fm' → i = i' ∧ a = a' ∧ ∀ q, q < a → fm q = fm' q
  | 0, i, a, i', a', h, h' => ⟨by rw [h.1, h'.1], by rw [h.2, h'.2], fun q hq => by have := h.2; omega⟩
  | k + 1, i, a, i', a', ⟨i0, a0, m, g, h1, h2, h3, h4, h5, h6⟩, ⟨j0, b0, m', g', h1', h2', h3', h4', h5', h6'⟩ => by
    obtain ⟨e1, e2, e3⟩ := RCH_u hU hf hE k _ _ _ _ h1 h1'
    subst e1
    subst e2
    obtain ⟨q1, q2⟩ := SPN_u hU (fun j hj => hf j (by have := hE i0 h2; omega)) h3 h3'
    subst q1
    refine ⟨by rw [h5, h5'], by rw [h6, h6'], fun q hq => ?_⟩
    by_cases w : q < a0
    · exact e3 q w
    · have t1 := h4 (q - a0) (by omega)
      have t2 := h4' (q - a0) (by omega)
      have t3 : a0 + (q - a0) = q := by omega
      rw [t3] at t1 t2
      rw [t1, t2]
      exact q2 _ (by omega)
theorem RCH_cut {n : Nat} {f E H fm : Nat → Int32} {k : Nat} : ∀ (d i a : Nat), RCH U n f E H (k + d) i a fm → ∃ i0 a0, RCH U n f E H k i0 a0 fm ∧ a0 ≤ a ∧ ((d = 0 ∧ i0 = i) ∨ i0 < n)
  | 0, i, a, h => ⟨i, a, h, Nat.le_refl _, Or.inl ⟨rfl, rfl⟩⟩
  | d + 1, i, a, h => by
    have h : RCH U n f E H ((k + d) + 1) i a fm := h
    obtain ⟨i0, a0, m, g, h1, h2, h3, h4, h5, h6⟩ := h
    obtain ⟨i1, a1, q1, q2, q3⟩ := RCH_cut d _ _ h1
    refine ⟨i1, a1, q1, by omega, Or.inr ?_⟩
    rcases q3 with ⟨_, q3⟩ | q3
    · omega
    · exact q3
theorem RCH_cg {n : Nat} {f E H E' H' fm : Nat → Int32} (hE : ∀ i, i < n → E i = E' i ∧ H i = H' i) : ∀ (k i a : Nat), RCH U n f E H k i a fm → RCH U n f E' H' k i a fm
  | 0, _, _, h => h
  | k + 1, i, a, ⟨i0, a0, m, g, h1, h2, h3, h4, h5, h6⟩ => by
    obtain ⟨e1, e2⟩ := hE i0 h2
    rw [e1] at h3 h5
    rw [e2] at h3
    exact ⟨i0, a0, m, g, RCH_cg hE k _ _ h1, h2, h3, h4, h5, h6⟩
theorem RCH_iff {z n : Nat} {f g E H fm : Nat → Int32} (hE : ∀ i, i < n → (E i).toInt.toNat ≤ n ∧ (H i).toInt < z) (hf : prg n 0 65535 f) (hfg : ∀ k, k < n → f k = g k) (hV : okU V) (he : ∀ h, h < z → ∀ (n c : Nat) (f f' : Nat → Int32), prg n 0 65535 f → (U h n f c f' ↔ V h n f c f')) : ∀ (k i a : Nat), RCH U n f E H k i a fm ↔ RCH V n g E H k i a fm
  | 0, _, _ => Iff.rfl
  | k + 1, i, a => by
    constructor
    · rintro ⟨i0, a0, m, q, h1, h2, h3, h4, h5, h6⟩
      exact ⟨i0, a0, m, q, (RCH_iff hE hf hfg hV he k _ _).mp h1, h2, (SPN_iff (hE i0 h2).1 (hE i0 h2).2 hf hfg hV he).mp h3, h4, h5, h6⟩
    · rintro ⟨i0, a0, m, q, h1, h2, h3, h4, h5, h6⟩
      exact ⟨i0, a0, m, q, (RCH_iff hE hf hfg hV he k _ _).mpr h1, h2, (SPN_iff (hE i0 h2).1 (hE i0 h2).2 hf hfg hV he).mpr h3, h4, h5, h6⟩
theorem PBK_E {z n : Nat} {f : Nat → Int32} {pr : Int} {C S E H : Nat → Int32} (a : PBK U T z n f pr 0 C S E H) : ∀ i, i < n → (E i).toInt.toNat ≤ n ∧ (H i).toInt < z := fun i hi => by
  obtain ⟨_, a1, _⟩ := a i (by omega) hi
  exact ⟨a1.2.1, a1.2.2.2.1⟩
theorem RCH_end (hU : okU U) {n : Nat} {f E H fm fm' : Nat → Int32} {k k' c c' : Nat} (hf : prg n 0 65535 f) (hE : ∀ i, i < n → (E i).toInt.toNat ≤ n) (a : RCH U n f E H k n c fm) (b : RCH U n f E H k' n c' fm') : c = c' ∧ ∀ q, q < c → fm q = fm' q := by
  have e : k = k' := by
    rcases Nat.lt_trichotomy k k' with w | w | w
    · obtain ⟨d, hd⟩ : ∃ d, k' = k + d := ⟨k' - k, by omega⟩
      subst hd
      obtain ⟨i0, a0, q1, _, q3⟩ := RCH_cut d _ _ b
      have := (RCH_u hU hf hE k _ _ _ _ a q1).1
      omega
    · exact w
    · obtain ⟨d, hd⟩ : ∃ d, k = k' + d := ⟨k - k', by omega⟩
      subst hd
      obtain ⟨i0, a0, q1, _, q3⟩ := RCH_cut d _ _ a
      have := (RCH_u hU hf hE k' _ _ _ _ b q1).1
      omega
  subst e
  exact (RCH_u hU hf hE k _ _ _ _ a b).2
theorem RCH_big (hU : okU U) {n : Nat} {f E H fm fm' : Nat → Int32} {k k' i a c : Nat} (hf : prg n 0 65535 f) (hE : ∀ i, i < n → (E i).toInt.toNat ≤ n) (h : RCH U n f E H k i a fm) (ha : 300 < a) (h' : RCH U n f E H k' n c fm') : 300 < c := by
  rcases Nat.lt_or_ge k' k with w | w
  · obtain ⟨d, hd⟩ : ∃ d, k = k' + d := ⟨k - k', by omega⟩
    subst hd
    obtain ⟨i0, a0, q1, _, q3⟩ := RCH_cut d _ _ h
    have := (RCH_u hU hf hE k' _ _ _ _ h' q1).1
    omega
  · obtain ⟨d, hd⟩ : ∃ d, k' = k + d := ⟨k' - k, by omega⟩
    subst hd
    obtain ⟨i0, a0, q1, q2, _⟩ := RCH_cut d _ _ h'
    have := (RCH_u hU hf hE k _ _ _ _ h q1).2.1
    omega
/-- parts() -/
def ptP (U : Nat → Nat → (Nat → Int32) → Nat → (Nat → Int32) → Prop) (T : Int32 → Int32 → Int32) (z n : Nat) (f : Nat → Int32) (pr : Int) (c : Nat) (fm : Nat → Int32) (v : Int) : Prop := (1 ≤ n ∧ n ≤ 60 ∧ 0 ≤ pr ∧ pr ≤ 1000) ∧ ∃ C S E H : Nat → Int32, PBK U T z n f pr 0 C S E H ∧ v = (S 0).toInt ∧ c ≤ 300 ∧ ∃ k, RCH U n f E H k n c fm
theorem pt_ok (hU : okU U) {z n : Nat} {f : Nat → Int32} {pr : Int} (hf : prg n 0 65535 f) (hl : ∀ i, i < n → isLz (f i)) (hlz : ∀ (h n c : Nat) (f f' : Nat → Int32), h < z → prg n 0 65535 f → U h n f c f' → ∀ i, i < c → isLz (f' i)) : okQ (ptP U T z n f pr) := by
  rintro c fm v ⟨b0, C, S, E, H, hB, hv, hc, k, hk⟩
  have hE := PBK_E hB
  refine ⟨⟨hc, ?_⟩, ?_⟩
  · have ll : ∀ (k i a : Nat), RCH U n f E H k i a fm → ∀ q, q < a → isLz (fm q) := by
      intro k
      induction k with
      | zero => intro i a h q hq; have := h.2; omega
      | succ k ih =>
        rintro i a ⟨i0, a0, m, g, h1, h2, h3, h4, h5, h6⟩ q hq
        by_cases w : q < a0
        · exact ih _ _ h1 q w
        · have t1 := h4 (q - a0) (by omega)
          have t3 : a0 + (q - a0) = q := by omega
          rw [t3] at t1
          rw [t1]
          have e1 := (hE i0 h2).1
          rcases h3 with ⟨s1, s2, s3⟩ | ⟨s1, s2⟩
          · rw [s3 _ (by omega)]
            exact hl _ (by omega)
          · exact hlz _ _ _ _ _ (by have := (hE i0 h2).2; omega) (fun j hj => hf (i0 + j) (by omega)) s2 _ (by omega)
    exact ll k n c hk
  · rintro c' fm' v' ⟨_, C', S', E', H', hB', hv', hc', k', hk'⟩
    have u := PBK_u hB hB' n 0 (by omega) (by omega)
    have q := RCH_end hU hf (fun i hi => (hE i hi).1) hk (RCH_cg (fun i hi => ⟨(u i (by omega) hi).2.2.1.symm, (u i (by omega) hi).2.2.2.symm⟩) _ _ _ hk')
    exact ⟨q.1, by rw [hv, hv', (u 0 (by omega) (by omega)).2.1], q.2⟩
theorem pt_iff (hU : okU U) {z n : Nat} {f g : Nat → Int32} {pr : Int} (hf : prg n 0 65535 f) (hfg : ∀ k, k < n → f k = g k) (hV : okU V) (he : ∀ h, h < z → ∀ (n c : Nat) (f f' : Nat → Int32), prg n 0 65535 f → (U h n f c f' ↔ V h n f c f')) (hT : ∀ x y : Int32, 0 ≤ x.toInt → x.toInt ≤ 65535 → 0 ≤ y.toInt → y.toInt ≤ 65535 → T x y = T' x y) : ∀ c fm v, ptP U T z n f pr c fm v ↔ ptP V T' z n g pr c fm v := by
  intro c fm v
  constructor
  · rintro ⟨b0, C, S, E, H, hB, hv, hc, k, hk⟩
    exact ⟨b0, C, S, E, H, (PBK_iff hU (by omega) hf hfg hV he hT).mp hB, hv, hc, k, (RCH_iff (PBK_E hB) hf hfg hV he _ _ _).mp hk⟩
  · rintro ⟨b0, C, S, E, H, hB, hv, hc, k, hk⟩
    have hB' := (PBK_iff hU (by omega) hf hfg hV he hT).mpr hB
    exact ⟨b0, C, S, E, H, hB', hv, hc, k, (RCH_iff (PBK_E hB') hf hfg hV he _ _ _).mpr hk⟩
/-- the spans together are too long -/
theorem pt_big (hU : okU U) {z n : Nat} {f fm : Nat → Int32} {pr : Int} {C S E H : Nat → Int32} {k i a : Nat} (hf : prg n 0 65535 f) (hB : PBK U T z n f pr 0 C S E H) (h : RCH U n f E H k i a fm) (ha : 300 < a) : ∀ c fm v, ¬ ptP U T z n f pr c fm v := by
  rintro c fm' v ⟨_, C', S', E', H', hB', hv', hc', k', hk'⟩
  have u := PBK_u hB hB' n 0 (by omega) (by omega)
  have q := RCH_big hU hf (fun i hi => (PBK_E hB i hi).1) h ha (RCH_cg (fun i hi => ⟨(u i (by omega) hi).2.2.1.symm, (u i (by omega) hi).2.2.2.symm⟩) _ _ _ hk')
  omega
theorem RCH_step {n k i a m : Nat} {f E H fm fm' g : Nat → Int32} (h : RCH U n f E H k i a fm) (hi : i < n) (hs : SPN U f i (E i).toInt.toNat (H i).toInt m g) (h1 : ∀ q, q < a → fm' q = fm q) (h2 : ∀ q, q < m → fm' (a + q) = g q) : RCH U n f E H (k + 1) (E i).toInt.toNat (a + m) fm' :=
  ⟨i, a, m, g, RCH_f k _ _ (fun q hq => (h1 q hq).symm) h, hi, hs, h2, rfl, rfl⟩
end PRT
/-! parts() of the class: offers -/
def lxl (sm sp en c s e : Int) : Prop := sm < c ∨ (sm = c ∧ (sp < s ∨ (sp = s ∧ e < en)))
def F_ib (r : Int32) (sm sp en c s e : Int) : Prop := (r.toInt = 1 ∧ lxl sm sp en c s e) ∨ (r.toInt = 0 ∧ ¬ lxl sm sp en c s e)
def F_of (pr fr en h cs : Int32) (Q1 Q1' Q2 Q2' Q3 Q3' Q4 Q4' : Nat → Int32) : Prop := ∃ sm sp : Int32, sm.toInt = cs.toInt + (Q1 en.toNatClampNeg).toInt + (if 0 < (Q2 en.toNatClampNeg).toInt then pr.toInt else 0) ∧ sp.toInt = 1 + (Q2 en.toNatClampNeg).toInt ∧
  (((Q1 fr.toNatClampNeg = -1 ∨ lxl sm.toInt sp.toInt en.toInt (Q1 fr.toNatClampNeg).toInt (Q2 fr.toNatClampNeg).toInt (Q3 fr.toNatClampNeg).toInt) ∧ Q1' = upd Q1 fr.toNatClampNeg sm ∧ Q2' = upd Q2 fr.toNatClampNeg sp ∧ Q3' = upd Q3 fr.toNatClampNeg en ∧ Q4' = upd Q4 fr.toNatClampNeg h) ∨
   (¬ Q1 fr.toNatClampNeg = -1 ∧ ¬ lxl sm.toInt sp.toInt en.toInt (Q1 fr.toNatClampNeg).toInt (Q2 fr.toNatClampNeg).toInt (Q3 fr.toNatClampNeg).toInt ∧ Q1' = Q1 ∧ Q2' = Q2 ∧ Q3' = Q3 ∧ Q4' = Q4))
/-- what stands behind m is in order -/
def QOK (n m : Int) (Q1 Q2 : Nat → Int32) : Prop := ∀ j : Nat, m < j → (j : Int) ≤ n → 0 ≤ (Q1 j).toInt ∧ (Q1 j).toInt ≤ 70000 * (n - j) ∧ 0 ≤ (Q2 j).toInt ∧ (Q2 j).toInt ≤ n - j ∧ ((j : Int) < n → 1 ≤ (Q2 j).toInt)
/-- the best of those offered at i -/
def BFS (U : Nat → Nat → (Nat → Int32) → Nat → (Nat → Int32) → Prop) (T : Int32 → Int32 → Int32) (z n : Nat) (f : Nat → Int32) (pr : Int) (A : Nat → Int → Prop) (i : Nat) (Q1 Q2 Q3 Q4 : Nat → Int32) : Prop := (Q1 i = -1 ∧ ∀ (j : Nat) (h s sp : Int), A j h → ¬ cnd U T z n f pr Q1 Q2 i j h s sp) ∨ (0 ≤ (Q1 i).toInt ∧ (Q1 i).toInt ≤ 70000 * ((n : Int) - i) ∧ 1 ≤ (Q2 i).toInt ∧ (Q2 i).toInt ≤ (n : Int) - i ∧ 0 ≤ (Q3 i).toInt ∧ bst U T z n f pr Q1 Q2 A i (Q3 i).toInt.toNat (Q4 i).toInt (Q1 i).toInt (Q2 i).toInt)
section PR2
variable {U V : Nat → Nat → (Nat → Int32) → Nat → (Nat → Int32) → Prop} {T T' : Int32 → Int32 → Int32}
theorem QOK_u {n m : Int} {Q1 Q1' Q2 Q2' : Nat → Int32} {i : Nat} {a b : Int32} (h : QOK n m Q1 Q2) (hi : (i : Int) ≤ m) (e1 : Q1' = upd Q1 i a ∨ Q1' = Q1) (e2 : Q2' = upd Q2 i b ∨ Q2' = Q2) : QOK n m Q1' Q2' := by
  intro j h1 h2
  have q := h j h1 h2
  have w1 : Q1' j = Q1 j := by
    rcases e1 with e | e
    · rw [e, pk_un (by omega)]
    · rw [e]
  have w2 : Q2' j = Q2 j := by
    rcases e2 with e | e
    · rw [e, pk_un (by omega)]
    · rw [e]
  rw [w1, w2]; exact q
theorem bst_cg {z n : Nat} {f : Nat → Int32} {pr : Int} {C S C' S' : Nat → Int32} {A : Nat → Int → Prop} {i e : Nat} {h s sp : Int} (hC : ∀ k, i < k → k < n → C k = C' k ∧ S k = S' k) (a : bst U T z n f pr C S A i e h s sp) : bst U T z n f pr C' S' A i e h s sp := by
  obtain ⟨a1, a2, a3⟩ := a
  exact ⟨cnd_cg hC a1, a2, fun j h' s' sp' q c2 => a3 j h' s' sp' q (cnd_cg (fun k k1 k2 => ⟨(hC k k1 k2).1.symm, (hC k k1 k2).2.symm⟩) c2)⟩
theorem BFS_A {z n : Nat} {f : Nat → Int32} {pr : Int} {A A' : Nat → Int → Prop} {i : Nat} {Q1 Q2 Q3 Q4 : Nat → Int32} (b : BFS U T z n f pr A i Q1 Q2 Q3 Q4) (hA : ∀ (j : Nat) (h s sp : Int), cnd U T z n f pr Q1 Q2 i j h s sp → (A' j h ↔ A j h)) : BFS U T z n f pr A' i Q1 Q2 Q3 Q4 := by
  rcases b with ⟨b1, b2⟩ | ⟨b1, b2, b3, b4, b5, b6, b7, b8⟩
  · exact Or.inl ⟨b1, fun j h s sp a c => b2 j h s sp ((hA j h s sp c).mp a) c⟩
  · exact Or.inr ⟨b1, b2, b3, b4, b5, b6, (hA _ _ _ _ b6).mpr b7, fun j h s sp a c => b8 j h s sp ((hA j h s sp c).mp a) c⟩
/-- one more is offered -/
theorem BFS_off (hU : okU U) {z n : Nat} {f g : Nat → Int32} {A A' : Nat → Int → Prop} {pr fr en h cs : Int32} {c i : Nat} {Q1 Q1' Q2 Q2' Q3 Q3' Q4 Q4' : Nat → Int32} (b : BFS U T z n f pr.toInt A i Q1 Q2 Q3 Q4) (ho : F_of pr fr en h cs Q1 Q1' Q2 Q2' Q3 Q3' Q4 Q4') (hq : QOK n i Q1 Q2) (hn : n ≤ 60) (hf : prg n 0 65535 f) (ei : fr.toInt = i) (h1 : fr.toInt < en.toInt) (h2 : en.toInt ≤ n) (hh : -1 ≤ h.toInt ∧ h.toInt < z) (hs : SPN U f i en.toNatClampNeg h.toInt c g) (hc : cs.toInt = cT T c g) (hc0 : 0 ≤ cs.toInt ∧ cs.toInt ≤ 62000) (hp : 0 ≤ pr.toInt ∧ pr.toInt ≤ 1000) (hA : ∀ (j2 : Nat) (h2 : Int), A' j2 h2 ↔ (A j2 h2 ∨ (j2 = en.toNatClampNeg ∧ h2 = h.toInt))) (hl : ∀ (j2 : Nat) (h2 : Int), A j2 h2 → h2 ≤ h.toInt) : BFS U T z n f pr.toInt A' i Q1' Q2' Q3' Q4' ∧ QOK n i Q1' Q2' := by
  have ce := v_clamp (x := en) (by omega)
  have cf : fr.toNatClampNeg = i := ix_eq ei
  obtain ⟨sm, sp, s1, s2, s3⟩ := ho
  rw [cf] at s3
  have q := hq en.toNatClampNeg (by omega) (by omega)
  have ca : cnd U T z n f pr.toInt Q1 Q2 i en.toNatClampNeg h.toInt sm.toInt sp.toInt := by
    refine ⟨by omega, by omega, hh.1, hh.2, ⟨c, g, hs, ?_⟩, ?_⟩
    · rw [s1, hc]
      by_cases w : en.toNatClampNeg < n
      · rw [if_pos w, if_pos (by omega)]; omega
      · rw [if_neg w, if_neg (by omega)]; omega
    · rw [s2]
      by_cases w : en.toNatClampNeg < n
      · rw [if_pos w]
      · rw [if_neg w]; omega
  have bd : 0 ≤ sm.toInt ∧ sm.toInt ≤ 70000 * ((n : Int) - i) ∧ 1 ≤ sp.toInt ∧ sp.toInt ≤ (n : Int) - i := by
    have w : (if 0 < (Q2 en.toNatClampNeg).toInt then pr.toInt else 0) ≤ 1000 ∧ 0 ≤ (if 0 < (Q2 en.toNatClampNeg).toInt then pr.toInt else 0) := by
      split <;> omega
    omega
  rcases s3 with ⟨t1, t2, t3, t4, t5⟩ | ⟨t1, t2, t3, t4, t5, t6⟩
  · have cg : ∀ k, i < k → k < n → Q1 k = Q1' k ∧ Q2 k = Q2' k := fun k k1 k2 => by rw [t2, t3, pk_un (by omega), pk_un (by omega)]; exact ⟨rfl, rfl⟩
    refine ⟨Or.inr ?_, QOK_u hq (by omega) (Or.inl t2) (Or.inl t3)⟩
    rw [t4, t5, pk_us, pk_us]
    have e1 : Q1' i = sm := by rw [t2, pk_us]
    have e2 : Q2' i = sp := by rw [t3, pk_us]
    rw [e1, e2]
    refine ⟨bd.1, bd.2.1, bd.2.2.1, bd.2.2.2, by omega, bst_cg cg ?_⟩
    have ee : en.toInt.toNat = en.toNatClampNeg := by omega
    rw [ee]
    refine bst_new hA ca (fun s2 sp2 c2 => cnd_u hU (by omega) hf c2 ca) ?_
    rcases b with ⟨_, b2⟩ | ⟨b1, b2, b3, b4, b5, b6⟩
    · exact Or.inl b2
    · refine Or.inr ⟨_, _, _, _, b6, ?_⟩
      rcases t1 with t1 | t1
      · exact absurd t1 (v_nn b1)
      · unfold lxl at t1
        unfold LE4
        omega
  · rw [t3, t4, t5, t6]
    refine ⟨?_, hq⟩
    rcases b with ⟨b1, b2⟩ | ⟨b1, b2, b3, b4, b5, b6⟩
    · exact absurd b1 t1
    · refine Or.inr ⟨b1, b2, b3, b4, b5, bst_add b6 hA (fun s' sp' c2 => ?_)⟩
      obtain ⟨w1, w2⟩ := cnd_u hU (by omega) hf c2 ca
      have w3 := hl _ _ b6.2.1
      unfold lxl at t2
      unfold LE4
      omega
/-- all were offered: the best stands -/
theorem BFS_all {z n : Nat} {f : Nat → Int32} {pr : Int} {A : Nat → Int → Prop} {i : Nat} {Q1 Q2 Q3 Q4 : Nat → Int32} (b : BFS U T z n f pr A i Q1 Q2 Q3 Q4) (hi : i < n) (hA : ∀ (j : Nat) (h s sp : Int), cnd U T z n f pr Q1 Q2 i j h s sp → A j h) : 0 ≤ (Q1 i).toInt ∧ (Q1 i).toInt ≤ 70000 * ((n : Int) - i) ∧ 1 ≤ (Q2 i).toInt ∧ (Q2 i).toInt ≤ (n : Int) - i ∧ 0 ≤ (Q3 i).toInt ∧ bst U T z n f pr Q1 Q2 (fun _ _ => True) i (Q3 i).toInt.toNat (Q4 i).toInt (Q1 i).toInt (Q2 i).toInt := by
  rcases b with ⟨b1, b2⟩ | ⟨b1, b2, b3, b4, b5, b6, b7, b8⟩
  · have c : cnd U T z n f pr Q1 Q2 i n (-1) (cT T ((n - i : Nat) : Int) (fun k => f (i + k)) + (if n < n then pr + (Q1 n).toInt else 0)) (1 + (if n < n then (Q2 n).toInt else 0)) := ⟨hi, Nat.le_refl _, by omega, by omega, ⟨n - i, _, Or.inl ⟨rfl, rfl, fun _ _ => rfl⟩, rfl⟩, rfl⟩
    exact absurd c (b2 _ _ _ _ (hA _ _ _ _ c))
  · exact ⟨b1, b2, b3, b4, b5, b6, trivial, fun j h s sp _ c => b8 j h s sp (hA j h s sp c) c⟩
theorem PBK_s {z n : Nat} {f : Nat → Int32} {pr m m' : Int} {i : Nat} {Q1 Q2 Q3 Q4 : Nat → Int32} (a : PBK U T z n f pr m Q1 Q2 Q3 Q4) (em : m = i + 1) (em' : m' = i) (h0 : 0 ≤ (Q3 i).toInt) (b : bst U T z n f pr Q1 Q2 (fun _ _ => True) i (Q3 i).toInt.toNat (Q4 i).toInt (Q1 i).toInt (Q2 i).toInt) : PBK U T z n f pr m' Q1 Q2 Q3 Q4 := by
  intro k h1 h2
  by_cases w : k = i
  · subst w
    exact ⟨h0, b⟩
  · exact a k (by omega) h2
/-- nothing behind m changed -/
theorem PBK_k {z n : Nat} {f : Nat → Int32} {pr m : Int} {C S E H C' S' E' H' : Nat → Int32} (a : PBK U T z n f pr m C S E H) (h : ∀ k : Nat, m ≤ k → k < n → C k = C' k ∧ S k = S' k ∧ E k = E' k ∧ H k = H' k) : PBK U T z n f pr m C' S' E' H' := by
  intro i h1 h2
  obtain ⟨a0, a1⟩ := a i h1 h2
  obtain ⟨e1, e2, e3, e4⟩ := h i h1 h2
  rw [← e1, ← e2, ← e3, ← e4]
  exact ⟨a0, bst_cg (fun k k1 k2 => ⟨(h k (by omega) k2).1, (h k (by omega) k2).2.1⟩) a1⟩
/-- only the place i changed -/
def onlyI (i : Nat) (Q1 Q1' Q2 Q2' Q3 Q3' Q4 Q4' : Nat → Int32) : Prop := ∀ k : Nat, k ≠ i → Q1 k = Q1' k ∧ Q2 k = Q2' k ∧ Q3 k = Q3' k ∧ Q4 k = Q4' k
theorem only_r {i : Nat} {Q1 Q2 Q3 Q4 : Nat → Int32} : onlyI i Q1 Q1 Q2 Q2 Q3 Q3 Q4 Q4 := fun _ _ => ⟨rfl, rfl, rfl, rfl⟩
theorem only_t {i : Nat} {Q1 Q1' Q1x Q2 Q2' Q2x Q3 Q3' Q3x Q4 Q4' Q4x : Nat → Int32} (a : onlyI i Q1 Q1' Q2 Q2' Q3 Q3' Q4 Q4') (b : onlyI i Q1' Q1x Q2' Q2x Q3' Q3x Q4' Q4x) : onlyI i Q1 Q1x Q2 Q2x Q3 Q3x Q4 Q4x := fun k hk => by
  obtain ⟨a1, a2, a3, a4⟩ := a k hk
  obtain ⟨b1, b2, b3, b4⟩ := b k hk
  exact ⟨a1.trans b1, a2.trans b2, a3.trans b3, a4.trans b4⟩
theorem only_of {pr fr en h cs : Int32} {i : Nat} {Q1 Q1' Q2 Q2' Q3 Q3' Q4 Q4' : Nat → Int32} (ho : F_of pr fr en h cs Q1 Q1' Q2 Q2' Q3 Q3' Q4 Q4') (ei : fr.toInt = i) : onlyI i Q1 Q1' Q2 Q2' Q3 Q3' Q4 Q4' := by
  have cf : fr.toNatClampNeg = i := ix_eq ei
  obtain ⟨sm, sp, s1, s2, s3⟩ := ho
  rw [cf] at s3
  intro k hk
  rcases s3 with ⟨t1, t2, t3, t4, t5⟩ | ⟨t1, t2, t3, t4, t5, t6⟩
  · rw [t2, t3, t4, t5, pk_un hk, pk_un hk, pk_un hk, pk_un hk]; exact ⟨rfl, rfl, rfl, rfl⟩
  · rw [t3, t4, t5, t6]; exact ⟨rfl, rfl, rfl, rfl⟩
/-- as it is: what a span costs, letter by letter -/
theorem sh_s {i i' su su' be x r : Int32} {f : Nat → Int32} {b : Nat} (h : su.toInt = cs T (fun k => f (b + k)) (i.toInt - b).toNat) (hb : be = pv (fun k => f (b + k)) (i.toInt - b).toNat) (hx : x = f i.toNatClampNeg) (hr : r.toInt = cF (T be x) be x) (hs : su'.toInt = su.toInt + r.toInt) (h0 : (b : Int) ≤ i.toInt) (hi' : i'.toInt = i.toInt + 1) : su'.toInt = cs T (fun k => f (b + k)) (i'.toInt - b).toNat ∧ x = pv (fun k => f (b + k)) (i'.toInt - b).toNat := by
  have c := v_clamp (x := i) (by omega)
  have e : (i'.toInt - b).toNat = (i.toInt - b).toNat + 1 := by omega
  have e2 : b + (i.toInt - b).toNat = i.toNatClampNeg := by omega
  rw [e, cs, pv, e2, ← hb, ← hx, ← h, ← hr]
  exact ⟨hs, rfl⟩
theorem sh_c {i su be r s : Int32} {f : Nat → Int32} {b : Nat} (h : su.toInt = cs T (fun k => f (b + k)) (i.toInt - b).toNat) (hb : be = pv (fun k => f (b + k)) (i.toInt - b).toNat) (hr : r.toInt = cF (T be 32) be 32) (hs : s.toInt = su.toInt + r.toInt) : s.toInt = cT T (((i.toInt - b).toNat : Nat) : Int) (fun k => f (b + k)) := by
  unfold cT
  have e : (((i.toInt - b).toNat : Nat) : Int).toNat = (i.toInt - b).toNat := by omega
  rw [e, ← hb, ← h, ← hr]
  exact hs
end PR2
