/-! size, byteOf, worth, count -/
def F_sz (r cd : Int32) (Bf : Int32 → Int32) (n : Nat) (f : Nat → Int32) : Prop := (okd cd ∧ ∃ (m : Int32) (g : Nat → Int32), WR (fun j => enc cd (f j) (Bf (f j))) n m g ∧ r.toInt = m.toInt) ∨ ((∀ (m : Int32) (g : Nat → Int32), ¬ (okd cd ∧ WR (fun j => enc cd (f j) (Bf (f j))) n m g)) ∧ r.toInt = -1)
def F_by (r cd i : Int32) (Bf : Int32 → Int32) (n : Nat) (f : Nat → Int32) : Prop := (okd cd ∧ ∃ (m : Int32) (g : Nat → Int32), WR (fun j => enc cd (f j) (Bf (f j))) n m g ∧ ((0 ≤ i.toInt ∧ i.toInt < m.toInt ∧ r = g i.toNatClampNeg) ∨ (¬ (0 ≤ i.toInt ∧ i.toInt < m.toInt) ∧ r = -1))) ∨ ((∀ (m : Int32) (g : Nat → Int32), ¬ (okd cd ∧ WR (fun j => enc cd (f j) (Bf (f j))) n m g)) ∧ r = -1)
theorem wr_eE {cd : Int32} {Bf Cf : Int32 → Int32} {n : Nat} {f e : Nat → Int32} (hf : prg n 0 65535 f) (he : ∀ j, j < n → f j = e j) (hE : ∀ x : Int32, 0 ≤ x.toInt → x.toInt ≤ 65535 → enc cd x (Bf x) = enc cd x (Cf x)) : ∀ j, j < n → (fun j => enc cd (f j) (Bf (f j))) j = (fun j => enc cd (e j) (Cf (e j))) j := fun j hj => by
  have r := hf j (by omega)
  show enc cd (f j) (Bf (f j)) = enc cd (e j) (Cf (e j))
  rw [← he j hj]; exact hE _ r.1 r.2
theorem sz_eq {r q cd : Int32} {Bf Cf : Int32 → Int32} {n : Nat} {f e : Nat → Int32} (hf : prg n 0 65535 f) (he : ∀ j, j < n → f j = e j) (hE : ∀ x : Int32, 0 ≤ x.toInt → x.toInt ≤ 65535 → enc cd x (Bf x) = enc cd x (Cf x)) (h : F_sz r cd Bf n f) (h' : F_sz q cd Cf n e) : r = q := by
  have ee := wr_eE hf he hE
  rcases h with ⟨a1, m, g, a2, a3⟩ | ⟨a1, a2⟩ <;> rcases h' with ⟨b1, m', g', b2, b3⟩ | ⟨b1, b2⟩
  · have q1 := (WR_eq (WR_congr a2 ee) b2).1
    exact v_inj (by rw [a3, b3, q1])
  · exact absurd ⟨a1, WR_congr a2 ee⟩ (b1 _ _)
  · exact absurd ⟨b1, WR_congr b2 (fun j hj => (ee j hj).symm)⟩ (a1 _ _)
  · exact v_inj (by rw [a2, b2])
theorem by_eq {r q cd i : Int32} {Bf Cf : Int32 → Int32} {n : Nat} {f e : Nat → Int32} (hf : prg n 0 65535 f) (he : ∀ j, j < n → f j = e j) (hE : ∀ x : Int32, 0 ≤ x.toInt → x.toInt ≤ 65535 → enc cd x (Bf x) = enc cd x (Cf x)) (h : F_by r cd i Bf n f) (h' : F_by q cd i Cf n e) : r = q := by
  have ee := wr_eE hf he hE
  rcases h with ⟨a1, m, g, a2, a3⟩ | ⟨a1, a2⟩ <;> rcases h' with ⟨b1, m', g', b2, b3⟩ | ⟨b1, b2⟩
  · obtain ⟨q1, q2⟩ := WR_eq (WR_congr a2 ee) b2
    subst q1
    rcases a3 with ⟨a3, a4, a5⟩ | ⟨a3, a4⟩ <;> rcases b3 with ⟨b3, b4, b5⟩ | ⟨b3, b4⟩
    · have c := v_clamp a3
      rw [a5, b5]; exact q2 _ (by omega)
    · exact absurd ⟨a3, a4⟩ b3
    · exact absurd ⟨b3, b4⟩ a3
    · rw [a4, b4]
  · exact absurd ⟨a1, WR_congr a2 ee⟩ (b1 _ _)
  · exact absurd ⟨b1, WR_congr b2 (fun j hj => (ee j hj).symm)⟩ (a1 _ _)
  · rw [a2, b2]
theorem wr_nn {cd r ft l : Int32} {g f : Nat → Int32} {Bf : Int32 → Int32} {n : Int} (h : F_wr r ft l g (fun j => enc cd (f j) (Bf (f j))) n) (hr : r.toInt = 0) : ∀ (m : Int32) (g : Nat → Int32), ¬ (okd cd ∧ WR (fun j => enc cd (f j) (Bf (f j))) n.toNat m g) := by
  rintro m g' ⟨_, w⟩
  rcases h with ⟨r1, _⟩ | ⟨r1, i, h1, _, h3, _⟩
  · rw [r1] at hr; exact absurd hr (by decide)
  · exact (w.2 i (by omega)).1 h3
def F_cnt (r wh a0 a1 a2 a3 a4 a5 a6 a7 : Int) : Prop := (wh = 0 ∧ r = a0) ∨ (wh = 1 ∧ r = a1) ∨ (wh = 2 ∧ r = a2) ∨ (wh = 3 ∧ r = a3) ∨ (wh = 4 ∧ r = a4) ∨ (wh = 5 ∧ r = a5) ∨ (wh = 6 ∧ r = a6) ∨ (wh = 7 ∧ r = a7) ∨ ((wh < 0 ∨ 7 < wh) ∧ r = -1)
theorem cnt_eq {r q : Int32} {wh a0 a1 a2 a3 a4 a5 a6 a7 : Int} (h : F_cnt r.toInt wh a0 a1 a2 a3 a4 a5 a6 a7) (h' : F_cnt q.toInt wh a0 a1 a2 a3 a4 a5 a6 a7) : r = q := v_inj (by unfold F_cnt at h h'; omega)

theorem wz_y {cd r ft l : Int32} {g f : Nat → Int32} {Bf : Int32 → Int32} {n : Int} (h : (okd cd ∧ F_wr r ft l g (fun j => enc cd (f j) (Bf (f j))) n) ∨ (r.toInt = 0 ∧ ¬ okd cd)) (hr : ¬ r.toInt = 0) : okd cd ∧ WR (fun j => enc cd (f j) (Bf (f j))) n.toNat l g := by
  rcases h with ⟨h1, h2⟩ | ⟨h1, _⟩
  · exact ⟨h1, wr_WR h2 hr⟩
  · exact absurd h1 hr
theorem wz_n {cd r ft l : Int32} {g f : Nat → Int32} {Bf : Int32 → Int32} {n : Int} (h : (okd cd ∧ F_wr r ft l g (fun j => enc cd (f j) (Bf (f j))) n) ∨ (r.toInt = 0 ∧ ¬ okd cd)) (hr : r.toInt = 0) : ∀ (m : Int32) (g : Nat → Int32), ¬ (okd cd ∧ WR (fun j => enc cd (f j) (Bf (f j))) n.toNat m g) := by
  rcases h with ⟨h1, h2⟩ | ⟨_, h1⟩
  · exact wr_nn h2 hr
  · exact fun m g w => h1 w.1
theorem by_y {r cd i l : Int32} {Bf : Int32 → Int32} {n : Nat} {f g : Nat → Int32} (h : okd cd ∧ WR (fun j => enc cd (f j) (Bf (f j))) n l g) (hg : F_get l i r g) : F_by r cd i Bf n f := by
  refine Or.inl ⟨h.1, l, g, h.2, ?_⟩
  rcases hg with ⟨g1, g2, g3⟩ | ⟨g1, g2⟩
  · exact Or.inl ⟨g1, g2, g3⟩
  · exact Or.inr ⟨by omega, g2⟩

theorem wr_s0 {cd r ft l : Int32} {g f : Nat → Int32} {Bf : Int32 → Int32} {n z : Int} (h : F_wr r ft l g (fun j => enc cd (f j) (Bf (f j))) n) (e : n = z) : F_wr r ft l g (fun j => enc cd (f j) (Bf (f j))) z := by rw [← e]; exact h

theorem cT_s1 {T : Int32 → Int32 → Int32} {f : Nat → Int32} {r s x : Int} (h : r = cT T x f) (e : x = s) : r = cT T s f := by rw [← e]; exact h
