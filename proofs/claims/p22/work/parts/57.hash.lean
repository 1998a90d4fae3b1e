/-! scattered tables: places by a start and a step of one; a place is free where its value is -1 -/
def slI (M st q : Int32) : Nat := ((st + q) &&& M).toNatClampNeg
/-- the place that comes first on the way of the key w: free, or the key's own -/
def F_pl (N : Int) (M st w r : Int32) (K V : Nat → Int32) : Prop := ∃ q : Int32, 0 ≤ q.toInt ∧ q.toInt < N ∧ r.toNatClampNeg = slI M st q ∧ (V (slI M st q) = -1 ∨ K (slI M st q) = w) ∧ ∀ j : Int32, 0 ≤ j.toInt → j.toInt < q.toInt → ¬ V (slI M st j) = -1 ∧ ¬ K (slI M st j) = w
/-- each key stands at the first place of its way -/
def HT (N : Int) (M : Int32) (hs : Int32 → Int32) (K V : Nat → Int32) : Prop := ∀ s : Nat, (s : Int) < N → ¬ V s = -1 → ∃ q : Int32, 0 ≤ q.toInt ∧ q.toInt < N ∧ s = slI M (hs (K s)) q ∧ ∀ j : Int32, 0 ≤ j.toInt → j.toInt < q.toInt → ¬ V (slI M (hs (K s)) j) = -1 ∧ ¬ K (slI M (hs (K s)) j) = K s
def toldK (N : Int) (K V : Nat → Int32) (w v : Int32) : Prop := ∃ s : Nat, (s : Int) < N ∧ K s = w ∧ V s = v ∧ ¬ v = -1
theorem HT_0 {N : Int} {M : Int32} {hs : Int32 → Int32} {K V : Nat → Int32} (h : ∀ s : Nat, (s : Int) < N → V s = -1) : HT N M hs K V := fun s h1 h2 => absurd (h s h1) h2
/-- a free place: the key is not told -/
theorem pl_free {N : Int} {M r w v : Int32} {hs : Int32 → Int32} {K V : Nat → Int32} (hT : HT N M hs K V) (h : F_pl N M (hs w) w r K V) (hf : V r.toNatClampNeg = -1) : ¬ toldK N K V w v := by
  rintro ⟨s, h1, h2, h3, h4⟩
  obtain ⟨q, q0, q1, q2, q3, q4⟩ := h
  obtain ⟨k, k0, k1, k2, k3⟩ := hT s h1 (by rw [h3]; exact h4)
  rw [h2] at k2 k3
  rcases Int.lt_trichotomy k.toInt q.toInt with z | z | z
  · exact (q4 k k0 z).2 (by rw [← k2]; exact h2)
  · have e : k = q := v_inj z
    rw [e] at k2
    rw [q2, ← k2, h3] at hf
    exact h4 hf
  · exact (k3 q q0 z).1 (by rw [← q2]; exact hf)
/-- a place that isn't free is the key's own -/
theorem pl_own {N : Int} {M r w : Int32} {hs : Int32 → Int32} {K V : Nat → Int32} (h : F_pl N M (hs w) w r K V) (hf : ¬ V r.toNatClampNeg = -1) : K r.toNatClampNeg = w := by
  obtain ⟨q, q0, q1, q2, q3, q4⟩ := h
  rw [← q2] at q3
  exact q3.resolve_left hf
/-- only one place is the key's own -/
theorem pl_one {N : Int} {M w : Int32} {hs : Int32 → Int32} {K V : Nat → Int32} (hT : HT N M hs K V) {s s' : Nat} (h1 : (s : Int) < N) (h1' : (s' : Int) < N) (h2 : ¬ V s = -1) (h2' : ¬ V s' = -1) (h3 : K s = w) (h3' : K s' = w) : s = s' := by
  obtain ⟨q, q0, q1, q2, q3⟩ := hT s h1 h2
  obtain ⟨k, k0, k1, k2, k3⟩ := hT s' h1' h2'
  rw [h3] at q2 q3
  rw [h3'] at k2 k3
  rcases Int.lt_trichotomy k.toInt q.toInt with z | z | z
  · exact absurd (by rw [← k2]; exact h3') (q3 k k0 z).2
  · rw [q2, k2, v_inj z]
  · exact absurd (by rw [← q2]; exact h3) (k3 q q0 z).2
/-- a new key at its free place -/
theorem HT_new {N : Int} {M r w v : Int32} {hs : Int32 → Int32} {K V K' V' : Nat → Int32} (hT : HT N M hs K V) (h : F_pl N M (hs w) w r K V) (hf : V r.toNatClampNeg = -1) (hv : ¬ v = -1) (eK : K' = upd K r.toNatClampNeg w) (eV : V' = upd V r.toNatClampNeg v) : HT N M hs K' V' := by
  intro s h1 h2
  by_cases z : s = r.toNatClampNeg
  · have ks : K' s = w := by rw [eK, z, pk_us]
    obtain ⟨q, q0, q1, q2, q3, q4⟩ := h
    refine ⟨q, q0, q1, by rw [ks, z]; exact q2, fun j j0 j1 => ?_⟩
    rw [ks]
    have hj := q4 j j0 j1
    have ne : slI M (hs w) j ≠ r.toNatClampNeg := fun e => hj.1 (by rw [e]; exact hf)
    rw [eK, eV, pk_un ne, pk_un ne]
    exact hj
  · have ks : K' s = K s := by rw [eK, pk_un z]
    have vs : V' s = V s := by rw [eV, pk_un z]
    rw [vs] at h2
    obtain ⟨q, q0, q1, q2, q3⟩ := hT s h1 h2
    refine ⟨q, q0, q1, by rw [ks]; exact q2, fun j j0 j1 => ?_⟩
    rw [ks]
    have hj := q3 j j0 j1
    have ne : slI M (hs (K s)) j ≠ r.toNatClampNeg := fun e => hj.1 (by rw [e]; exact hf)
    rw [eK, eV, pk_un ne, pk_un ne]
    exact hj
/-- another value for a key that is told -/
theorem HT_set {N : Int} {M v : Int32} {hs : Int32 → Int32} {K V V' : Nat → Int32} {r : Nat} (hT : HT N M hs K V) (hf : ¬ V r = -1) (hv : ¬ v = -1) (eV : V' = upd V r v) : HT N M hs K V' := by
  have sm : ∀ s, ¬ V s = -1 ↔ ¬ V' s = -1 := by
    intro s
    by_cases z : s = r
    · rw [eV, z, pk_us]; exact ⟨fun _ => hv, fun _ => hf⟩
    · rw [eV, pk_un z]
  intro s h1 h2
  obtain ⟨q, q0, q1, q2, q3⟩ := hT s h1 ((sm s).mpr h2)
  exact ⟨q, q0, q1, q2, fun j j0 j1 => ⟨(sm _).mp (q3 j j0 j1).1, (q3 j j0 j1).2⟩⟩
/-- how many of the first n places aren't free -/
def occ (V : Nat → Int32) : Nat → Nat
  | 0 => 0
  | n + 1 => occ V n + (if V n = -1 then 0 else 1)
theorem occ_out (V : Nat → Int32) (k : Nat) (v : Int32) : ∀ n, n ≤ k → occ (upd V k v) n = occ V n
  | 0, _ => rfl
  | n + 1, h => by rw [occ, occ, occ_out V k v n (by omega), pk_un (by omega)]
theorem occ_upd (V : Nat → Int32) (k : Nat) (v : Int32) : ∀ n, occ (upd V k v) n ≤ occ V n + 1
  | 0 => Nat.le_succ _
  | n + 1 => by
    by_cases e : n = k
    · have h1 := occ_out V k v n (by omega)
      rw [occ, occ, h1]
      split <;> split <;> omega
    · have h1 := occ_upd V k v n
      rw [occ, occ, pk_un e]
      omega
theorem occ_same {V : Nat → Int32} {k : Nat} {v : Int32} (hk : ¬ V k = -1) (hv : ¬ v = -1) : ∀ n, occ (upd V k v) n = occ V n
  | 0 => rfl
  | n + 1 => by
    by_cases e : n = k
    · rw [occ, occ, occ_same hk hv n, e, pk_us, if_neg hk, if_neg hv]
    · rw [occ, occ, occ_same hk hv n, pk_un e]
theorem occ_free (V : Nat → Int32) : ∀ n, occ V n < n → ∃ q, q < n ∧ V q = -1
  | 0, h => absurd h (Nat.not_lt_zero _)
  | n + 1, h => by
    by_cases e : V n = -1
    · exact ⟨n, Nat.lt_succ_self n, e⟩
    · rw [occ, if_neg e] at h
      obtain ⟨q, h1, h2⟩ := occ_free V n (by omega)
      exact ⟨q, by omega, h2⟩
theorem occ_0 {V : Nat → Int32} : ∀ {n : Nat}, (∀ j, j < n → V j = -1) → occ V n = 0
  | 0, _ => rfl
  | n + 1, h => by rw [occ, occ_0 (fun j hj => h j (by omega)), if_pos (h n (by omega))]
/-- the way of a key passes every place -/
theorem way_all {M st : Int32} {s : Nat} (k : Nat) (hk : k ≤ 30) (hM : M.toBitVec.toNat = 2 ^ k - 1) (hst : 0 ≤ st.toInt ∧ st.toInt < ((2 ^ k : Nat) : Int)) (hs : s < 2 ^ k) : ∃ q : Int32, 0 ≤ q.toInt ∧ q.toInt < ((2 ^ k : Nat) : Int) ∧ slI M st q = s := by
  have h2 : 2 ^ k ≤ 2 ^ 30 := Nat.pow_le_pow_right (by decide) hk
  obtain ⟨S, hS⟩ : ∃ S : Nat, st = nI S ∧ S < 2 ^ k := by
    obtain ⟨j, hj, e⟩ := nI_of (v_nneg hst.1)
    refine ⟨j, e, ?_⟩
    rw [e, nI_toInt hj] at hst
    have := hst.2
    omega
  have hp : 0 < 2 ^ k := Nat.pow_pos (by decide)
  refine ⟨nI ((s + 2 ^ k - S) % 2 ^ k), ?_, ?_, ?_⟩
  · rw [nI_toInt (by have := Nat.mod_lt (s + 2 ^ k - S) hp; omega)]; omega
  · have := Nat.mod_lt (s + 2 ^ k - S) hp
    rw [nI_toInt (by omega)]; omega
  · have hm := Nat.mod_lt (s + 2 ^ k - S) hp
    unfold slI
    rw [hS.1, nI_add, pk_andN (by omega) k hM]
    have e : (S + (s + 2 ^ k - S) % 2 ^ k) % 2 ^ k = s := by
      rw [Nat.add_mod_mod]
      have : S + (s + 2 ^ k - S) = s + 2 ^ k := by omega
      rw [this, Nat.add_mod_right, Nat.mod_eq_of_lt hs]
    rw [e, nI_clamp (by omega)]

def pk2 (x y : Int32) : Int32 := (x <<< (16 &&& 31)) ||| y
def hsK (w : Int32) : Int32 := (((w * (-1640531535)) : Int32).toUInt32 >>> ((22 : Int32).toUInt32 &&& Int32.toUInt32 31)).toInt32

theorem way_step {M st w k k' pl v kk a : Int32} {K V : Nat → Int32} (h : ∀ q : Int32, 0 ≤ q.toInt → q.toInt < k.toInt → ¬ V (slI M st q) = -1 ∧ ¬ K (slI M st q) = w) (ea : a = st + k) (ep : pl = a &&& M) (ev : v = V pl.toNatClampNeg) (ek : kk = K pl.toNatClampNeg) (c1 : ¬ v = -1) (c2 : ¬ kk = w) (hk' : k'.toInt = k.toInt + 1) : ∀ q : Int32, 0 ≤ q.toInt → q.toInt < k'.toInt → ¬ V (slI M st q) = -1 ∧ ¬ K (slI M st q) = w := by
  intro q h1 h2
  by_cases z : q.toInt = k.toInt
  · have e : slI M st q = pl.toNatClampNeg := by rw [v_inj z, ep, ea]; rfl
    rw [e, ← ev, ← ek]; exact ⟨c1, c2⟩
  · exact h q h1 (by omega)
theorem way_here {N : Int} {M st w k pl a : Int32} {K V : Nat → Int32} (h : ∀ q : Int32, 0 ≤ q.toInt → q.toInt < k.toInt → ¬ V (slI M st q) = -1 ∧ ¬ K (slI M st q) = w) (ea : a = st + k) (ep : pl = a &&& M) (hor : V pl.toNatClampNeg = -1 ∨ K pl.toNatClampNeg = w) (h0 : 0 ≤ k.toInt) (hN : k.toInt < N) : F_pl N M st w pl K V := by
  have e : slI M st k = pl.toNatClampNeg := by rw [ep, ea]; rfl
  exact ⟨k, h0, hN, e.symm, by rw [e]; exact hor, h⟩
/-- what placeFor answers -/
def F_pf (N : Int) (M st w r : Int32) (K V : Nat → Int32) : Prop := (r = -1 ∧ ∀ q : Int32, 0 ≤ q.toInt → q.toInt < N → ¬ V (slI M st q) = -1 ∧ ¬ K (slI M st q) = w) ∨ (0 ≤ r.toInt ∧ F_pl N M st w r K V)
theorem F_pf_eq {N : Int} {M st st' w r : Int32} {K V : Nat → Int32} (h : F_pf N M st w r K V) (e : st = st') : F_pf N M st' w r K V := by rw [← e]; exact h
