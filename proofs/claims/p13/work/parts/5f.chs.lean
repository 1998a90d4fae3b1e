/-! choices: the book of the cheapest, step by step -/
def m200 (n : Nat) : Nat := if n < 200 then n else 200
/-- the entry e goes behind all that cost no more -/
def INSk (k0 k1 : Nat) (B : Nat → Nat → Int) (e : Nat → Int) (A : Nat → Nat → Int) : Prop := ∃ p, p ≤ k0 ∧ (∀ i, i < p → B i 2 ≤ e 2) ∧ (∀ i, p ≤ i → i < k0 → e 2 < B i 2) ∧ ∀ i, i < k1 → ∀ k, k < 4 → A i k = if i < p then B i k else if i = p then e k else B (i - 1) k
def STP (V : Nat → (Nat → Int) → Prop) (t n : Nat) (B : Nat → Nat → Int) (n' : Nat) (A : Nat → Nat → Int) : Prop := (∃ e, V t e ∧ n' = n + 1 ∧ INSk (m200 n) (m200 (n + 1)) B e A) ∨ ((∀ e, ¬ V t e) ∧ n' = n ∧ ∀ i, i < m200 n → ∀ k, k < 4 → A i k = B i k)
def FLD (V : Nat → (Nat → Int) → Prop) (s n0 : Nat) (B : Nat → Nat → Int) : Nat → Nat → (Nat → Nat → Int) → Prop
  | 0, n, A => n = n0 ∧ ∀ i, i < m200 n0 → ∀ k, k < 4 → A i k = B i k
  | j + 1, n, A => ∃ (n1 : Nat) (A1 : Nat → Nat → Int), FLD V s n0 B j n1 A1 ∧ STP V (s + j) n1 A1 n A
theorem m200_l (n : Nat) : m200 n ≤ 200 ∧ m200 n ≤ n := by
  unfold m200
  split <;> omega
theorem m200_s (n : Nat) : m200 n ≤ m200 (n + 1) ∧ m200 (n + 1) ≤ m200 n + 1 ∧ (m200 n < 200 → m200 (n + 1) = m200 n + 1) := by
  unfold m200
  split <;> split <;> omega
def srtA (k : Nat) (A : Nat → Nat → Int) : Prop := ∀ i j, i < j → j < k → A i 2 ≤ A j 2
theorem INS_s {k0 k1 : Nat} {B A : Nat → Nat → Int} {e : Nat → Int} (h : INSk k0 k1 B e A) (hs : srtA k0 B) (hk : k1 ≤ k0 + 1) : srtA k1 A := by
  obtain ⟨p, h1, h2, h3, h4⟩ := h
  intro i j hij hj
  rw [h4 i (by omega) 2 (by omega), h4 j hj 2 (by omega)]
  by_cases c1 : i < p
  · rw [if_pos c1]
    by_cases c2 : j < p
    · rw [if_pos c2]; exact hs i j hij (by omega)
    · rw [if_neg c2]
      by_cases c3 : j = p
      · rw [if_pos c3]; exact h2 i c1
      · rw [if_neg c3]
        by_cases c4 : i = j - 1
        · rw [c4]; exact Int.le_refl _
        · exact hs i (j - 1) (by omega) (by omega)
  · rw [if_neg c1, if_neg (show ¬ j < p by omega), if_neg (show ¬ j = p by omega)]
    by_cases c2 : i = p
    · rw [if_pos c2]
      have := h3 (j - 1) (by omega) (by omega)
      omega
    · rw [if_neg c2]; exact hs (i - 1) (j - 1) (by omega) (by omega)
theorem srtA_c {k : Nat} {A B : Nat → Nat → Int} (h : srtA k B) (e : ∀ i, i < k → ∀ q, q < 4 → A i q = B i q) : srtA k A := fun i j hij hj => by rw [e i (by omega) 2 (by omega), e j hj 2 (by omega)]; exact h i j hij hj
theorem STP_s {V : Nat → (Nat → Int) → Prop} {t n n' : Nat} {B A : Nat → Nat → Int} (h : STP V t n B n' A) (hs : srtA (m200 n) B) : srtA (m200 n') A := by
  rcases h with ⟨e, _, h1, h2⟩ | ⟨_, h1, h2⟩
  · subst h1
    exact INS_s h2 hs (m200_s n).2.1
  · subst h1
    exact srtA_c hs h2
theorem FLD_s {V : Nat → (Nat → Int) → Prop} {s n0 : Nat} {B : Nat → Nat → Int} (hs : srtA (m200 n0) B) : ∀ (j n : Nat) (A : Nat → Nat → Int), FLD V s n0 B j n A → srtA (m200 n) A
  | 0, n, A, h => by
    obtain ⟨h1, h2⟩ := h
    subst h1
    exact srtA_c hs h2
  | j + 1, n, A, ⟨n1, A1, h1, h2⟩ => STP_s h2 (FLD_s hs j _ _ h1)
theorem INS_u {k0 k1 : Nat} {B B' A A' : Nat → Nat → Int} {e e' : Nat → Int} (h : INSk k0 k1 B e A) (h' : INSk k0 k1 B' e' A') (hB : ∀ i, i < k0 → ∀ k, k < 4 → B i k = B' i k) (he : ∀ k, k < 4 → e k = e' k) (hk : k1 ≤ k0 + 1) : ∀ i, i < k1 → ∀ k, k < 4 → A i k = A' i k := by
  obtain ⟨p, h1, h2, h3, h4⟩ := h
  obtain ⟨p', h1', h2', h3', h4'⟩ := h'
  have e2 := he 2 (by omega)
  have ep : p = p' := by
    rcases Nat.lt_trichotomy p p' with w | w | w
    · have a := h3 p (Nat.le_refl _) (by omega)
      have b := h2' p w
      have c := hB p (by omega) 2 (by omega)
      omega
    · exact w
    · have a := h3' p' (Nat.le_refl _) (by omega)
      have b := h2 p' w
      have c := hB p' (by omega) 2 (by omega)
      omega
  subst ep
  intro i hi k hk4
  rw [h4 i hi k hk4, h4' i hi k hk4]
  by_cases c1 : i < p
  · rw [if_pos c1, if_pos c1]; exact hB i (by omega) k hk4
  · rw [if_neg c1, if_neg c1]
    by_cases c2 : i = p
    · rw [if_pos c2, if_pos c2]; exact he k hk4
    · rw [if_neg c2, if_neg c2]; exact hB (i - 1) (by omega) k hk4
def fnV (V : Nat → (Nat → Int) → Prop) : Prop := ∀ t e e', V t e → V t e' → ∀ k, k < 4 → e k = e' k
theorem FLD_u {V : Nat → (Nat → Int) → Prop} {s n0 : Nat} {B B' : Nat → Nat → Int} (hV : fnV V) (hB : ∀ i, i < m200 n0 → ∀ k, k < 4 → B i k = B' i k) : ∀ (j n n' : Nat) (A A' : Nat → Nat → Int), FLD V s n0 B j n A → FLD V s n0 B' j n' A' → n = n' ∧ ∀ i, i < m200 n → ∀ k, k < 4 → A i k = A' i k
  | 0, n, n', A, A', h, h' => by
    obtain ⟨h1, h2⟩ := h
    obtain ⟨h1', h2'⟩ := h'
    subst h1
    subst h1'
    exact ⟨rfl, fun i hi k hk => by rw [h2 i hi k hk, h2' i hi k hk]; exact hB i hi k hk⟩
  | j + 1, n, n', A, A', ⟨n1, A1, h1, h2⟩, ⟨n1', A1', h1', h2'⟩ => by
    obtain ⟨q1, q2⟩ := FLD_u hV hB j _ _ _ _ h1 h1'
    subst q1
    rcases h2 with ⟨e, a1, a2, a3⟩ | ⟨a1, a2, a3⟩ <;> rcases h2' with ⟨e', b1, b2, b3⟩ | ⟨b1, b2, b3⟩
    · subst a2
      subst b2
      exact ⟨rfl, INS_u a3 b3 q2 (hV _ _ _ a1 b1) (m200_s n1).2.1⟩
    · exact absurd a1 (b1 _)
    · exact absurd b1 (a1 _)
    · subst a2
      subst b2
      exact ⟨rfl, fun i hi k hk => by rw [a3 i hi k hk, b3 i hi k hk]; exact q2 i hi k hk⟩
theorem FLD_iff {V V' : Nat → (Nat → Int) → Prop} {s n0 : Nat} {B : Nat → Nat → Int} : ∀ (j n : Nat) (A : Nat → Nat → Int), (∀ q e, q < j → (V (s + q) e ↔ V' (s + q) e)) → FLD V s n0 B j n A → FLD V' s n0 B j n A
  | 0, _, _, _, h => h
  | j + 1, n, A, hV, ⟨n1, A1, h1, h2⟩ => by
    refine ⟨n1, A1, FLD_iff j _ _ (fun q e hq => hV q e (by omega)) h1, ?_⟩
    rcases h2 with ⟨e, a1, a2, a3⟩ | ⟨a1, a2, a3⟩
    · exact Or.inl ⟨e, (hV j e (by omega)).mp a1, a2, a3⟩
    · exact Or.inr ⟨fun e w => a1 e ((hV j e (by omega)).mpr w), a2, a3⟩
theorem STP_c {V : Nat → (Nat → Int) → Prop} {t n n' : Nat} {B B' A : Nat → Nat → Int} (hB : ∀ i, i < m200 n → ∀ k, k < 4 → B i k = B' i k) (h : STP V t n B n' A) : STP V t n B' n' A := by
  rcases h with ⟨e, a1, a2, p, h1, h2, h3, h4⟩ | ⟨a1, a2, a3⟩
  · refine Or.inl ⟨e, a1, a2, p, h1, fun i hi => by rw [← hB i (by omega) 2 (by omega)]; exact h2 i hi, fun i hi hj => by rw [← hB i hj 2 (by omega)]; exact h3 i hi hj, fun i hi k hk => ?_⟩
    rw [h4 i hi k hk]
    have := (m200_s n).2.1
    by_cases c1 : i < p
    · rw [if_pos c1, if_pos c1]; exact hB i (by omega) k hk
    · rw [if_neg c1, if_neg c1]
      by_cases c2 : i = p
      · rw [if_pos c2, if_pos c2]
      · rw [if_neg c2, if_neg c2]; exact hB (i - 1) (by omega) k hk
  · exact Or.inr ⟨a1, a2, fun i hi k hk => by rw [a3 i hi k hk]; exact hB i hi k hk⟩
/-- first these, then those -/
theorem FLD_t {V : Nat → (Nat → Int) → Prop} {s n0 n1 : Nat} {B B1 : Nat → Nat → Int} {j : Nat} (h : FLD V s n0 B j n1 B1) : ∀ (j' n : Nat) (A : Nat → Nat → Int), FLD V (s + j) n1 B1 j' n A → FLD V s n0 B (j + j') n A
  | 0, n, A, h' => by
    obtain ⟨h1, h2⟩ := h'
    subst h1
    cases j with
    | zero =>
      obtain ⟨a1, a2⟩ := h
      subst a1
      exact ⟨rfl, fun i hi k hk => by rw [h2 i hi k hk]; exact a2 i hi k hk⟩
    | succ j =>
      obtain ⟨n2, A2, b1, b2⟩ := h
      refine ⟨n2, A2, b1, ?_⟩
      rcases b2 with ⟨e, a1, a2, p, h1, h2', h3, h4⟩ | ⟨a1, a2, a3⟩
      · subst a2
        exact Or.inl ⟨e, a1, rfl, p, h1, h2', h3, fun i hi k hk => by rw [h2 i hi k hk]; exact h4 i hi k hk⟩
      · subst a2
        exact Or.inr ⟨a1, rfl, fun i hi k hk => by rw [h2 i hi k hk]; exact a3 i hi k hk⟩
  | j' + 1, n, A, ⟨n2, A2, b1, b2⟩ => ⟨n2, A2, FLD_t h j' _ _ b1, by show STP V (s + (j + j')) n2 A2 n A; rw [← Nat.add_assoc]; exact b2⟩
theorem FLD_no {V : Nat → (Nat → Int) → Prop} {s n0 : Nat} {B : Nat → Nat → Int} : ∀ j : Nat, (∀ q e, q < j → ¬ V (s + q) e) → FLD V s n0 B j n0 B
  | 0, _ => ⟨rfl, fun _ _ _ _ => rfl⟩
  | j + 1, h => ⟨n0, B, FLD_no j (fun q e hq => h q e (by omega)), Or.inr ⟨fun e => h j e (by omega), rfl, fun _ _ _ _ => rfl⟩⟩
/-- every entry came of somewhere -/
theorem FLD_mem {V : Nat → (Nat → Int) → Prop} {s : Nat} {B : Nat → Nat → Int} : ∀ (j n : Nat) (A : Nat → Nat → Int), FLD V s 0 B j n A → ∀ i, i < m200 n → ∃ t e, t < s + j ∧ V t e ∧ ∀ k, k < 4 → A i k = e k
  | 0, n, A, h, i, hi => by
    obtain ⟨h1, _⟩ := h
    subst h1
    have := (m200_l 0).2
    omega
  | j + 1, n, A, ⟨n1, A1, h1, h2⟩, i, hi => by
    have ih := FLD_mem j n1 A1 h1
    rcases h2 with ⟨e, a1, a2, p, c1, c2, c3, c4⟩ | ⟨a1, a2, a3⟩
    · subst a2
      have ms := m200_s n1
      by_cases w1 : i < p
      · obtain ⟨t, e', d1, d2, d3⟩ := ih i (by omega)
        exact ⟨t, e', by omega, d2, fun k hk => by rw [c4 i hi k hk, if_pos w1]; exact d3 k hk⟩
      · by_cases w2 : i = p
        · exact ⟨s + j, e, by omega, a1, fun k hk => by rw [c4 i hi k hk, if_neg w1, if_pos w2]⟩
        · obtain ⟨t, e', d1, d2, d3⟩ := ih (i - 1) (by omega)
          exact ⟨t, e', by omega, d2, fun k hk => by rw [c4 i hi k hk, if_neg w1, if_neg w2]; exact d3 k hk⟩
    · subst a2
      obtain ⟨t, e', d1, d2, d3⟩ := ih i hi
      exact ⟨t, e', by omega, d2, fun k hk => by rw [a3 i hi k hk]; exact d3 k hk⟩
/-! the text laid out with free bytes -/
def mkB (f : Nat → Int32) : Nat → Nat
  | 0 => 0
  | i + 1 => mkB f i + (if f i = 65533 then 1 else 0)
theorem mkB_y {f : Nat → Int32} {i : Nat} (h : f i = 65533) : mkB f (i + 1) = mkB f i + 1 := by rw [mkB, if_pos h]
theorem mkB_n {f : Nat → Int32} {i : Nat} (h : ¬ f i = 65533) : mkB f (i + 1) = mkB f i := by rw [mkB, if_neg h, Nat.add_zero]
theorem mkB_m (f : Nat → Int32) {i : Nat} : ∀ j, i ≤ j → mkB f i ≤ mkB f j
  | 0, h => by
    have e : i = 0 := by omega
    rw [e]; exact Nat.le_refl _
  | j + 1, h => by
    by_cases e : i = j + 1
    · rw [e]; exact Nat.le_refl _
    · have a := mkB_m f (i := i) j (by omega)
      by_cases w : f j = 65533
      · rw [mkB_y w]; omega
      · rw [mkB_n w]; exact a
theorem mkB_u {f : Nat → Int32} {i j : Nat} (hi : f i = 65533) (hj : f j = 65533) (h : mkB f i = mkB f j) : i = j := by
  rcases Nat.lt_trichotomy i j with w | w | w
  · have a := mkB_m f (i := i + 1) j (by omega)
    rw [mkB_y hi] at a
    omega
  · exact w
  · have a := mkB_m f (i := j + 1) i (by omega)
    rw [mkB_y hj] at a
    omega
def EV (b : Int32) (Bf : Int32 → Int32) (f : Nat → Int32) (v1 v2 : Int) (i : Nat) : List Int := if f i = 65533 then [if mkB f i = 0 then v1 else v2] else enc b (f i) (Bf (f i))
theorem EV_m {b : Int32} {Bf : Int32 → Int32} {f : Nat → Int32} {v1 v2 : Int} {i : Nat} (h : f i = 65533) : EV b Bf f v1 v2 i = [if mkB f i = 0 then v1 else v2] := if_pos h
theorem EV_n {b : Int32} {Bf : Int32 → Int32} {f : Nat → Int32} {v1 v2 : Int} {i : Nat} (h : ¬ f i = 65533) : EV b Bf f v1 v2 i = enc b (f i) (Bf (f i)) := if_neg h
theorem psE_len {E E' : Nat → List Int} : ∀ n, (∀ j, j < n → (E j).length = (E' j).length) → psE E n = psE E' n
  | 0, _ => rfl
  | n + 1, h => by rw [psE, psE, psE_len n (fun j hj => h j (by omega)), h n (by omega)]
theorem WR_upd {E E' : Nat → List Int} {n i0 : Nat} {l x : Int32} {g g' : Nat → Int32} (h : WR E n l g) (hi : i0 < n) (h1 : (E i0).length = 1) (e0 : E' i0 = [x.toInt]) (eo : ∀ j, j < n → j ≠ i0 → E' j = E j) (eg : g' = upd g (psE E i0) x) : WR E' n l g' ∧ ∀ i, i ≤ n → psE E' i = psE E i := by
  have ps : ∀ i, i ≤ n → psE E' i = psE E i := fun i hin => psE_len i (fun j hj => by
    by_cases w : j = i0
    · rw [w, e0, h1]; rfl
    · rw [eo j (by omega) w])
  refine ⟨⟨by rw [ps n (Nat.le_refl _)]; exact h.1, fun j hj => ?_⟩, ps⟩
  obtain ⟨a1, a2⟩ := h.2 j hj
  have s0 : psE E (i0 + 1) = psE E i0 + 1 := by rw [psE, h1]
  by_cases w : j = i0
  · subst w
    rw [e0, ps j (by omega)]
    refine ⟨List.cons_ne_nil _ _, fun k hk => ?_⟩
    have k0 : k = 0 := by
      have hk : k < 1 := hk
      omega
    subst k0
    rw [eg]
    show (upd g (psE E j) x (psE E j + 0)).toInt = x.toInt
    rw [Nat.add_zero, pk_us]
  · rw [eo j hj w, ps j (by omega)]
    refine ⟨a1, fun k hk => ?_⟩
    have q := a2 k hk
    have sj : psE E (j + 1) = psE E j + (E j).length := by rw [psE]
    rw [eg, pk_un]
    · exact q
    · rcases Nat.lt_or_gt_of_ne w with w2 | w2
      · have := psE_le E (i := j + 1) i0 (by omega)
        omega
      · have := psE_le E (i := i0 + 1) j (by omega)
        omega
/-! the rough reading gives the text again just if no free byte begins a letter -/
section CBK
variable {b m : Int32} {L4 L5 g f : Nat → Int32} {Bf : Int32 → Int32} {n : Nat} {v1 v2 : Int}
theorem sg_h {g : Nat → Int32} {p : Nat} {bs : List Int} (h : sg g p bs) (hn : 0 < bs.length) : (g p).toInt = nth bs 0 := by
  have q := h 0 hn
  rw [Nat.add_zero] at q
  exact q
theorem EV_pos {E : Nat → List Int} {i : Nat} (h : ¬ E i = []) : 0 < (E i).length := by
  cases e : E i with
  | nil => exact absurd e h
  | cons a t => exact Nat.succ_pos _
theorem psE_lt {E : Nat → List Int} (hw : WR E n m g) {i : Nat} (hi : i < n) : (psE E i : Int) < m.toInt ∧ psE E i < psE E (i + 1) ∧ (psE E (i + 1) : Int) ≤ m.toInt := by
  have a := EV_pos (hw.2 i hi).1
  have s : psE E (i + 1) = psE E i + (E i).length := by rw [psE]
  have l := psE_le E (i := i + 1) n (by omega)
  have e := hw.1
  omega
theorem tok_n (hw : WR (EV b Bf f v1 v2) n m g) (hl : ∀ i, i < n → isLz (f i)) (hB : okB Bf) (hL : LBk b L4 L5 Bf) {i : Nat} (hi : i < n) (hm : ¬ f i = 65533) : ¬ dl b L4 L5 g m.toInt (psE (EV b Bf f v1 v2) i) = 0 ∧ psE (EV b Bf f v1 v2) i + dl b L4 L5 g m.toInt (psE (EV b Bf f v1 v2) i) = psE (EV b Bf f v1 v2) (i + 1) ∧ dx b L4 L5 g m.toInt (psE (EV b Bf f v1 v2) i) = f i := by
  obtain ⟨a1, a2⟩ := hw.2 i hi
  have lt := psE_lt hw hi
  have s : psE (EV b Bf f v1 v2) (i + 1) = psE (EV b Bf f v1 v2) i + (EV b Bf f v1 v2 i).length := by rw [psE]
  have e := EV_n (b := b) (Bf := Bf) (v1 := v1) (v2 := v2) hm
  rw [e] at a1 a2 s
  have lz := hl i hi
  obtain ⟨d1, d2⟩ := dl_of (en_Dec a2 a1 (n := m.toInt) (by omega) lz (hB _ lz.1 lz.2.1) hL)
  rw [d1]
  exact ⟨by omega, by omega, d2⟩
theorem mk_len {i : Nat} (hm : f i = 65533) : (EV b Bf f v1 v2 i).length = 1 := by rw [EV_m hm]; rfl
theorem dn_b {g : Nat → Int32} {k : Int} {p : Nat} {l x : Int} (h : DNa g k p l x) : 5 ≤ l ∧ l ≤ 8 ∧ ∀ t : Nat, 1 ≤ t → (t : Int) < l → 35 ≤ bt g k (p + t) ∧ bt g k (p + t) ≤ 59 ∧ ¬ bt g k (p + t) = 38 := by
  unfold DNa DN at h
  refine ⟨by omega, by omega, fun t t1 t2 => ?_⟩
  have t8 : t = 1 ∨ t = 2 ∨ t = 3 ∨ t = 4 ∨ t = 5 ∨ t = 6 ∨ t = 7 := by omega
  rcases t8 with e | e | e | e | e | e | e <;> subst e <;> omega
theorem enc2_h {x B : Int32} (hb : b.toInt = 2) (h0 : 0 ≤ x.toInt) (h1 : x.toInt ≤ 65535) : nth (enc b x B) 0 < 128 ∨ 192 ≤ nth (enc b x B) 0 := by
  unfold enc
  rw [if_neg (by omega), if_neg (by omega), if_pos hb]
  split
  · exact Or.inl (by assumption)
  · split
    · exact Or.inr (by show 192 ≤ 192 + x.toInt / 64; omega)
    · exact Or.inr (by show 192 ≤ 224 + x.toInt / 4096; omega)
theorem enc3_h {x B : Int32} (hb : b.toInt = 3) : nth (enc b x B) 0 = 38 ∨ (enc b x B).length = 1 := by
  unfold enc
  rw [if_neg (by omega), if_neg (by omega), if_neg (by omega), if_pos hb]
  split
  · exact Or.inr rfl
  · unfold encN
    split
    · exact Or.inl rfl
    · split
      · exact Or.inl rfl
      · split
        · exact Or.inl rfl
        · split
          · exact Or.inl rfl
          · exact Or.inl rfl
theorem al3_r {v : Int32} (hb : b.toInt = 3) (h : alF b v L4 L5 = -1) (h0 : 0 ≤ v.toInt) : 128 ≤ v.toInt ∨ v.toInt = 38 := by
  unfold alF at h
  rw [if_neg (by omega), if_neg (by omega), if_pos hb] at h
  by_cases w : v.toInt < 128 ∧ ¬ v.toInt = 38
  · rw [if_pos w] at h
    exact absurd h (v_nn h0)
  · omega
/-- where a free byte begins a letter, it takes at least one more of the text's along -/
theorem swl (hw : WR (EV b Bf f v1 v2) n m g) (hb : prg m.toInt 0 255 g) (hl : ∀ i, i < n → isLz (f i)) (h2 : mkB f n ≤ 2) (hal : ∀ i, i < n → f i = 65533 → alF b (g (psE (EV b Bf f v1 v2) i)) L4 L5 = -1) {k : Nat} (hk : k < n) (hm : f k = 65533) (hD : ¬ dl b L4 L5 g m.toInt (psE (EV b Bf f v1 v2) k) = 0) : ∃ k', k + 2 ≤ k' ∧ k' ≤ n ∧ psE (EV b Bf f v1 v2) k + dl b L4 L5 g m.toInt (psE (EV b Bf f v1 v2) k) = psE (EV b Bf f v1 v2) k' := by
  have mx := dl_ex hD
  have hp := Dec_pos mx
  have e1 : ∀ i, i < n → f i = 65533 → psE (EV b Bf f v1 v2) (i + 1) = psE (EV b Bf f v1 v2) i + 1 := fun i hi he => by rw [psE, mk_len he]
  have en : (psE (EV b Bf f v1 v2) n : Int) = m.toInt := hw.1.symm
  have s1 := e1 k hk hm
  obtain ⟨h0, ⟨a1, a2, a3⟩ | ⟨a1, a2⟩ | ⟨a1, a2⟩⟩ := mx
  · exact absurd (a2.symm.trans (hal k hk hm)) a3
  · have nc : ∀ i, i < n → 128 ≤ bt g m.toInt (psE (EV b Bf f v1 v2) i) → bt g m.toInt (psE (EV b Bf f v1 v2) i) ≤ 191 → f i = 65533 := fun i hi q1 q2 => by
      refine Classical.byContradiction (fun w => ?_)
      obtain ⟨c1, c2⟩ := hw.2 i hi
      rw [EV_n w] at c1 c2
      have lz := hl i hi
      have hd := enc2_h (B := Bf (f i)) a1 lz.1 lz.2.1
      have ln : 0 < (enc b (f i) (Bf (f i))).length := by
        cases e : enc b (f i) (Bf (f i)) with
        | nil => exact absurd e c1
        | cons a t => exact Nat.succ_pos _
      rw [bt_in (psE_lt hw hi).1, sg_h c2 ln] at q1 q2
      omega
    unfold DMa DM at a2
    have b1 : 128 ≤ bt g m.toInt (psE (EV b Bf f v1 v2) k + 1) ∧ bt g m.toInt (psE (EV b Bf f v1 v2) k + 1) ≤ 191 := by omega
    have k1 : k + 1 < n := by
      have q := bt_lt (g := g) (n := m.toInt) (k := psE (EV b Bf f v1 v2) k + 1) (by omega)
      refine Classical.byContradiction (fun w => ?_)
      have e : k + 1 = n := by omega
      rw [← e, s1] at en
      omega
    rw [← s1] at b1
    have m1 := nc (k + 1) k1 b1.1 b1.2
    have s2 := e1 (k + 1) k1 m1
    have l2 : dl b L4 L5 g m.toInt (psE (EV b Bf f v1 v2) k) = 2 := by
      refine Classical.byContradiction (fun w => ?_)
      have b2 : 128 ≤ bt g m.toInt (psE (EV b Bf f v1 v2) k + 2) ∧ bt g m.toInt (psE (EV b Bf f v1 v2) k + 2) ≤ 191 := by omega
      have e2 : psE (EV b Bf f v1 v2) (k + 1 + 1) = psE (EV b Bf f v1 v2) k + 2 := by omega
      have k2 : k + 1 + 1 < n := by
        have q := bt_lt (g := g) (n := m.toInt) (k := psE (EV b Bf f v1 v2) k + 2) (by omega)
        refine Classical.byContradiction (fun w => ?_)
        have e : k + 1 + 1 = n := by omega
        rw [← e, e2] at en
        omega
      rw [← e2] at b2
      have m2 := nc (k + 1 + 1) k2 b2.1 b2.2
      have q0 := mkB_y hm
      have q1 := mkB_y m1
      have q2 := mkB_y m2
      have q3 := mkB_m f (i := k + 1 + 1 + 1) n (by omega)
      omega
    exact ⟨k + 1 + 1, by omega, by omega, by omega⟩
  · obtain ⟨l5, l8, bb⟩ := dn_b a2
    have st : ∀ t : Nat, 1 ≤ t → (t : Int) ≤ dl b L4 L5 g m.toInt (psE (EV b Bf f v1 v2) k) → k + t ≤ n ∧ psE (EV b Bf f v1 v2) (k + t) = psE (EV b Bf f v1 v2) k + t := by
      intro t
      induction t with
      | zero => intro h; omega
      | succ t ih =>
        intro _ t2
        by_cases t0 : t = 0
        · subst t0
          exact ⟨by omega, s1⟩
        · obtain ⟨i1, i2⟩ := ih (by omega) (by omega)
          obtain ⟨c1, c2, c3⟩ := bb t (by omega) (by omega)
          have q := bt_lt (g := g) (n := m.toInt) (k := psE (EV b Bf f v1 v2) k + t) (by omega)
          have kt : k + t < n := by
            refine Classical.byContradiction (fun w => ?_)
            have e : k + t = n := by omega
            rw [← e, i2] at en
            omega
          rw [← i2, bt_in (psE_lt hw kt).1] at c1 c2 c3
          have hx := hb (psE (EV b Bf f v1 v2) (k + t)) (psE_lt hw kt).1
          have ln : (EV b Bf f v1 v2 (k + t)).length = 1 := by
            by_cases w : f (k + t) = 65533
            · exact mk_len w
            · obtain ⟨d1, d2⟩ := hw.2 (k + t) kt
              rw [EV_n w] at d1 d2 ⊢
              have ln : 0 < (enc b (f (k + t)) (Bf (f (k + t)))).length := by
                cases e : enc b (f (k + t)) (Bf (f (k + t))) with
                | nil => exact absurd e d1
                | cons a t => exact Nat.succ_pos _
              rcases enc3_h (x := f (k + t)) (B := Bf (f (k + t))) a1 with w3 | w3
              · rw [sg_h d2 ln] at c3
                exact absurd w3 c3
              · exact w3
          refine ⟨by omega, ?_⟩
          show psE (EV b Bf f v1 v2) (k + t + 1) = _
          rw [psE, ln, i2]
          omega
    obtain ⟨j1, j2⟩ := st (dl b L4 L5 g m.toInt (psE (EV b Bf f v1 v2) k)) (by omega) (by omega)
    exact ⟨_, by omega, j1, j2.symm⟩
theorem dl_m {cd : Int32} {L4 L5 g : Nat → Int32} {k : Int} {p : Nat} (h : k ≤ p) : dl cd L4 L5 g k p = 0 := dl_no (Dec_end h)
/-- no free byte begins a letter in b -/
def BKB (b m : Int32) (L4 L5 g f : Nat → Int32) (E : Nat → List Int) (n : Nat) : Prop := ∀ i, i < n → f i = 65533 → dl b L4 L5 g m.toInt (psE E i) = 0
theorem rgh_y (hw : WR (EV b Bf f v1 v2) n m g) (hl : ∀ i, i < n → isLz (f i)) (hB : okB Bf) (hL : LBk b L4 L5 Bf) (hk : BKB b m L4 L5 g f (EV b Bf f v1 v2) n) : ∀ i, i ≤ n → psn (D1 (dl b L4 L5 g m.toInt)) i = psE (EV b Bf f v1 v2) i
  | 0, _ => rfl
  | i + 1, hi => by
    have ih := rgh_y hw hl hB hL hk i (by omega)
    rw [psn, ih]
    unfold D1
    by_cases w : f i = 65533
    · rw [if_pos (hk i (by omega) w), psE, mk_len w]
    · obtain ⟨t1, t2, _⟩ := tok_n hw hl hB hL (show i < n by omega) w
      rw [if_neg t1]
      exact t2
theorem rgh_x (hw : WR (EV b Bf f v1 v2) n m g) (hl : ∀ i, i < n → isLz (f i)) (hB : okB Bf) (hL : LBk b L4 L5 Bf) (hk : BKB b m L4 L5 g f (EV b Bf f v1 v2) n) {i : Nat} (hi : i < n) : X1 (dl b L4 L5 g m.toInt) (dx b L4 L5 g m.toInt) (psn (D1 (dl b L4 L5 g m.toInt)) i) = f i := by
  rw [rgh_y hw hl hB hL hk i (by omega)]
  unfold X1
  by_cases w : f i = 65533
  · rw [if_pos (hk i hi w), w]
  · obtain ⟨t1, _, t3⟩ := tok_n hw hl hB hL hi w
    rw [if_neg t1]
    exact t3
theorem rgh_n (hw : WR (EV b Bf f v1 v2) n m g) (hb : prg m.toInt 0 255 g) (hl : ∀ i, i < n → isLz (f i)) (hB : okB Bf) (hL : LBk b L4 L5 Bf) (h2 : mkB f n ≤ 2) (hal : ∀ i, i < n → f i = 65533 → alF b (g (psE (EV b Bf f v1 v2) i)) L4 L5 = -1) : ∀ k, k ≤ n → (m.toInt < (psn (D1 (dl b L4 L5 g m.toInt)) k : Int)) ∨ ∃ k', k ≤ k' ∧ k' ≤ n ∧ psn (D1 (dl b L4 L5 g m.toInt)) k = psE (EV b Bf f v1 v2) k' ∧ (k' = k → ∀ i, i < k → f i = 65533 → dl b L4 L5 g m.toInt (psE (EV b Bf f v1 v2) i) = 0)
  | 0, _ => Or.inr ⟨0, Nat.le_refl _, Nat.zero_le _, rfl, fun _ i hi => absurd hi (Nat.not_lt_zero i)⟩
  | k + 1, hk => by
    have en : (psE (EV b Bf f v1 v2) n : Int) = m.toInt := hw.1.symm
    rcases rgh_n hw hb hl hB hL h2 hal k (by omega) with ih | ⟨k', i1, i2, i3, i4⟩
    · left
      rw [psn]
      omega
    · by_cases kn : k' = n
      · left
        rw [psn, i3, kn]
        unfold D1
        rw [if_pos (dl_m (by omega))]
        omega
      · right
        rw [psn, i3]
        unfold D1
        by_cases w : f k' = 65533
        · by_cases z : dl b L4 L5 g m.toInt (psE (EV b Bf f v1 v2) k') = 0
          · rw [if_pos z]
            refine ⟨k' + 1, by omega, by omega, by rw [psE, mk_len w], fun e i hi hf => ?_⟩
            have ek : k' = k := by omega
            by_cases e2 : i = k
            · rw [e2, ← ek]; exact z
            · exact i4 ek i (by omega) hf
          · rw [if_neg z]
            obtain ⟨k2, q1, q2, q3⟩ := swl hw hb hl h2 hal (show k' < n by omega) w z
            exact ⟨k2, by omega, q2, q3, fun e => by omega⟩
        · obtain ⟨t1, t2, _⟩ := tok_n hw hl hB hL (show k' < n by omega) w
          rw [if_neg t1]
          refine ⟨k' + 1, by omega, by omega, t2, fun e i hi hf => ?_⟩
          have ek : k' = k := by omega
          by_cases e2 : i = k
          · rw [e2, ← ek] at hf; exact absurd hf w
          · exact i4 ek i (by omega) hf
/-- n letters come of it just if no free byte begins one -/
theorem rgh_iff (hw : WR (EV b Bf f v1 v2) n m g) (hb : prg m.toInt 0 255 g) (hl : ∀ i, i < n → isLz (f i)) (hB : okB Bf) (hL : LBk b L4 L5 Bf) (h2 : mkB f n ≤ 2) (hal : ∀ i, i < n → f i = 65533 → alF b (g (psE (EV b Bf f v1 v2) i)) L4 L5 = -1) : (psn (D1 (dl b L4 L5 g m.toInt)) n : Int) = m.toInt ↔ BKB b m L4 L5 g f (EV b Bf f v1 v2) n := by
  have en : (psE (EV b Bf f v1 v2) n : Int) = m.toInt := hw.1.symm
  constructor
  · intro h
    rcases rgh_n hw hb hl hB hL h2 hal n (Nat.le_refl _) with q | ⟨k', q1, q2, q3, q4⟩
    · omega
    · exact q4 (by omega)
  · intro h
    rw [rgh_y hw hl hB hL h n (Nat.le_refl _)]
    exact en
end CBK
/-! what comes behind the last mark -/
def RF (D : Nat → Nat) (m : Nat) : Nat → Nat → Prop
  | 0, p => p = m
  | c + 1, p => ¬ D p = 0 ∧ RF D m c (p + D p)
def hdF (X : Nat → Int32) (q : Nat) : Nat → Int32
  | 0 => 32
  | _ + 1 => X q
def tsF (T : Int32 → Int32 → Int32) (D : Nat → Nat) (X : Nat → Int32) : Nat → Nat → Int
  | 0, _ => 0
  | c + 1, p => cF (T (X p) (hdF X (p + D p) c)) (X p) (hdF X (p + D p) c) + tsF T D X c (p + D p)
theorem RF_u {D : Nat → Nat} {m : Nat} (hm : D m = 0) : ∀ (c c' p : Nat), RF D m c p → RF D m c' p → c = c'
  | 0, 0, _, _, _ => rfl
  | 0, c' + 1, p, h, h' => by
    have h : p = m := h
    rw [h] at h'
    exact absurd hm h'.1
  | c + 1, 0, p, h, h' => by
    have h' : p = m := h'
    rw [h'] at h
    exact absurd hm h.1
  | c + 1, c' + 1, p, h, h' => by rw [RF_u hm c c' _ h.2 h'.2]
theorem RF_cg {D D' : Nat → Nat} {X X' : Nat → Int32} {T : Int32 → Int32 → Int32} {m q : Nat} (h : ∀ p, q ≤ p → D p = D' p ∧ X p = X' p) : ∀ (c p : Nat), q ≤ p → (RF D m c p ↔ RF D' m c p) ∧ hdF X p c = hdF X' p c ∧ tsF T D X c p = tsF T D' X' c p
  | 0, p, _ => ⟨Iff.rfl, rfl, rfl⟩
  | c + 1, p, hp => by
    obtain ⟨e1, e2⟩ := h p hp
    obtain ⟨a1, a2, a3⟩ := RF_cg h c (p + D p) (by omega)
    refine ⟨?_, e2, ?_⟩
    · rw [RF, RF, ← e1]
      exact ⟨fun w => ⟨w.1, a1.mp w.2⟩, fun w => ⟨w.1, a1.mpr w.2⟩⟩
    · rw [tsF, tsF, ← e1, a2, a3, e2]
/-- a Reading, in whole numbers -/
def RN (T : Int32 → Int32 → Int32) (D : Nat → Nat) (X : Nat → Int32) (p c : Nat) (la : Int32) (su : Int) : Prop := p = psn D c ∧ gdD D c ∧ la = pv (fun i => X (psn D i)) c ∧ su = cs T (fun i => X (psn D i)) c
theorem RN_RF {T : Int32 → Int32 → Int32} {D : Nat → Nat} {X : Nat → Int32} {m : Nat} : ∀ (c' p c : Nat) (la : Int32) (su : Int), RN T D X p c la su → RF D m c' p → rdOk D m (c + c') ∧ cT T ((c + c' : Nat) : Int) (fun i => X (psn D i)) = su + cF (T la (hdF X p c')) la (hdF X p c') + tsF T D X c' p
  | 0, p, c, la, su, ⟨h1, h2, h3, h4⟩, h => by
    have h : p = m := h
    have e : ((c + 0 : Nat) : Int).toNat = c := by omega
    refine ⟨⟨by rw [Nat.add_zero, ← h1, h], h2⟩, ?_⟩
    unfold cT
    rw [e, ← h3, ← h4]
    show su + cF (T la 32) la 32 = su + cF (T la 32) la 32 + 0
    omega
  | c' + 1, p, c, la, su, ⟨h1, h2, h3, h4⟩, h => by
    obtain ⟨d1, d2⟩ := h
    have r : RN T D X (p + D p) (c + 1) (X p) (su + cF (T la (X p)) la (X p)) := by
      refine ⟨by rw [psn, ← h1], gdD_s h2 (by rw [← h1]; exact d1), by rw [pv, ← h1], ?_⟩
      rw [cs, ← h3, ← h4, ← h1]
    obtain ⟨a1, a2⟩ := RN_RF c' _ _ _ _ r d2
    have e : c + 1 + c' = c + (c' + 1) := by omega
    rw [e] at a1 a2
    refine ⟨a1, ?_⟩
    rw [a2, tsF]
    show _ = su + cF (T la (X p)) la (X p) + _
    omega
theorem rd_RF {D : Nat → Nat} {m c : Nat} (h : rdOk D m c) : ∀ d c1, c1 + d = c → RF D m d (psn D c1)
  | 0, c1, e => by
    have q := h.1
    rw [← e, Nat.add_zero] at q
    show psn D c1 = m
    omega
  | d + 1, c1, e => ⟨h.2 c1 (by omega), rd_RF h d (c1 + 1) (by omega)⟩
theorem RN_no {T : Int32 → Int32 → Int32} {D : Nat → Nat} {X : Nat → Int32} {m p c : Nat} {la : Int32} {su : Int} (h : RN T D X p c la su) (hp : p ≤ m) (hn : ∀ c', ¬ RF D m c' p) : ∀ c', ¬ rdOk D m c' := by
  intro c' hr
  by_cases w : c ≤ c'
  · have q := rd_RF hr (c' - c) c (by omega)
    rw [← h.1] at q
    exact hn _ q
  · have := psn_lt h.2.1 c (show c' < c by omega) (Nat.le_refl _)
    have e := hr.1
    have e2 := h.1
    omega
theorem RS_RN {T : Int32 → Int32 → Int32} {re la su le : Int32} {D : Nat → Nat} {X : Nat → Int32} (h : RS T re la su le D X) : RN T D X re.toNatClampNeg le.toInt.toNat la su.toInt := by
  obtain ⟨c, h1, h2, h3, h4, h5⟩ := h
  have e : le.toInt.toNat = c := by omega
  rw [e, ix_eq h1]
  exact ⟨rfl, h2, h4, h5⟩
/-- the tail from p on as the class keeps it -/
def TLK (T : Int32 → Int32 → Int32) (D : Nat → Nat) (X : Nat → Int32) (m : Nat) (W1 W2 W3 : Nat → Int32) (p : Nat) : Prop := (W3 p = -1 ∧ ∀ c, ¬ RF D m c p) ∨ ∃ c : Nat, (W3 p).toInt = c ∧ c ≤ 800 ∧ RF D m c p ∧ W1 p = hdF X p c ∧ 0 ≤ (W1 p).toInt ∧ (W1 p).toInt ≤ 65535 ∧ (W2 p).toInt = tsF T D X c p ∧ 0 ≤ (W2 p).toInt ∧ (W2 p).toInt ≤ 200 * c
theorem Dec_sf {cd : Int32} {L4 L5 g g' : Nat → Int32} {k : Int} {p l : Nat} {x : Int32} (h : ∀ j, p ≤ j → g j = g' j) (a : Dec cd L4 L5 g k p l x) : Dec cd L4 L5 g' k p l x := by
  have e : ∀ j, p ≤ j → bt g k j = bt g' k j := fun j hj => by
    unfold bt
    rw [h j hj]
  obtain ⟨h0, ⟨a1, a2, a3⟩ | ⟨a1, a2⟩ | ⟨a1, a2⟩⟩ := a
  · exact ⟨h0, Or.inl ⟨a1, by rw [← h p (Nat.le_refl _)]; exact a2, a3⟩⟩
  · unfold DMa at a2
    rw [e p (Nat.le_refl _), e (p + 1) (by omega), e (p + 2) (by omega)] at a2
    exact ⟨h0, Or.inr (Or.inl ⟨a1, a2⟩)⟩
  · unfold DNa at a2
    rw [e p (Nat.le_refl _), e (p + 1) (by omega), e (p + 2) (by omega), e (p + 3) (by omega), e (p + 4) (by omega), e (p + 5) (by omega), e (p + 6) (by omega), e (p + 7) (by omega)] at a2
    exact ⟨h0, Or.inr (Or.inr ⟨a1, a2⟩)⟩
theorem dl_sf {cd : Int32} {L4 L5 g g' : Nat → Int32} {k : Int} {p : Nat} (h : ∀ j, p ≤ j → g j = g' j) : dl cd L4 L5 g k p = dl cd L4 L5 g' k p ∧ dx cd L4 L5 g k p = dx cd L4 L5 g' k p := by
  by_cases w : dl cd L4 L5 g k p = 0
  · have no : ∀ l x, ¬ Dec cd L4 L5 g k p l x := fun l x a => by
      have q := (dl_of a).1
      have := Dec_pos a
      omega
    have no' : ∀ l x, ¬ Dec cd L4 L5 g' k p l x := fun l x a => no l x (Dec_sf (fun j hj => (h j hj).symm) a)
    rw [dl_no no, dl_no no']
    refine ⟨rfl, ?_⟩
    unfold dx
    rw [dif_neg (fun e => by obtain ⟨x, l, a⟩ := e; exact no l x a), dif_neg (fun e => by obtain ⟨x, l, a⟩ := e; exact no' l x a)]
  · obtain ⟨q1, q2⟩ := dl_of (Dec_sf h (dl_ex w))
    exact ⟨q1.symm, q2.symm⟩
theorem TLK_sf {T : Int32 → Int32 → Int32} {cd : Int32} {L4 L5 g g' W1 W2 W3 : Nat → Int32} {k : Int} {m p : Nat} (h : ∀ j, p ≤ j → g j = g' j) (a : TLK T (dl cd L4 L5 g k) (dx cd L4 L5 g k) m W1 W2 W3 p) : TLK T (dl cd L4 L5 g' k) (dx cd L4 L5 g' k) m W1 W2 W3 p := by
  have cg : ∀ q, p ≤ q → dl cd L4 L5 g k q = dl cd L4 L5 g' k q ∧ dx cd L4 L5 g k q = dx cd L4 L5 g' k q := fun q hq => dl_sf (fun j hj => h j (by omega))
  rcases a with ⟨a1, a2⟩ | ⟨c, a1, a2, a3, a4, a5, a6, a7, a8⟩
  · exact Or.inl ⟨a1, fun c w => a2 c ((RF_cg (T := T) cg c p (Nat.le_refl _)).1.mpr w)⟩
  · obtain ⟨q1, q2, q3⟩ := RF_cg (T := T) (m := m) cg c p (Nat.le_refl _)
    exact Or.inr ⟨c, a1, a2, q1.mp a3, a4.trans q2, a5, a6, a7.trans q3, a8⟩
/-! choices of the class -/
def CA (W4 W5 W6 W7 : Nat → Int32) (i k : Nat) : Int := (if k = 0 then W4 i else if k = 1 then W5 i else if k = 2 then W6 i else W7 i).toInt
def ent (a b s l : Int) (k : Nat) : Int := if k = 0 then (if a = -1 then b else a) else if k = 1 then (if a = -1 then -1 else b) else if k = 2 then s else l
theorem rk4 {k : Nat} (h : k < 4) : k = 0 ∨ k = 1 ∨ k = 2 ∨ k = 3 := by omega
/-- while the places move on: from pl on, up to hi, each stands one further -/
def KPL (W4 W5 W6 W7 G4 G5 G6 G7 : Nat → Int32) (pl hi : Int) : Prop := ∀ i : Nat, (∀ k, k < 4 → (i : Int) < pl → CA G4 G5 G6 G7 i k = CA W4 W5 W6 W7 i k) ∧ (∀ k, k < 4 → pl < i → (i : Int) ≤ hi → CA G4 G5 G6 G7 i k = CA W4 W5 W6 W7 (i - 1) k)
theorem KPL_0 {W4 W5 W6 W7 : Nat → Int32} {pl hi : Int} (h : pl = hi) : KPL W4 W5 W6 W7 W4 W5 W6 W7 pl hi := fun i => ⟨fun _ _ _ => rfl, fun _ _ h1 h2 => by omega⟩
theorem CA_4 {A B : Nat → Nat → Int} {i j : Nat} (h0 : A i 0 = B j 0) (h1 : A i 1 = B j 1) (h2 : A i 2 = B j 2) (h3 : A i 3 = B j 3) : ∀ k, k < 4 → A i k = B j k := fun k hk => by
  rcases rk4 hk with e | e | e | e <;> subst e <;> assumption
theorem CA_u {W4 W5 W6 W7 : Nat → Int32} {q i k : Nat} {x y z u : Int32} (h : i ≠ q) : CA (upd W4 q x) (upd W5 q y) (upd W6 q z) (upd W7 q u) i k = CA W4 W5 W6 W7 i k := by
  unfold CA
  rw [pk_un h, pk_un h, pk_un h, pk_un h]
theorem CA_s {W4 W5 W6 W7 : Nat → Int32} {q k : Nat} {x y z u : Int32} : CA (upd W4 q x) (upd W5 q y) (upd W6 q z) (upd W7 q u) q k = (if k = 0 then x else if k = 1 then y else if k = 2 then z else u).toInt := by
  unfold CA
  rw [pk_us, pk_us, pk_us, pk_us]
theorem KPL_s {W4 W5 W6 W7 G4 G5 G6 G7 H4 H5 H6 H7 : Nat → Int32} {pl pl' a x y z u : Int32} {hi : Int} (h : KPL W4 W5 W6 W7 G4 G5 G6 G7 pl.toInt hi) (h0 : 1 ≤ pl.toInt) (ha : a.toInt = pl.toInt - 1) (e4 : x = G4 a.toNatClampNeg) (e5 : y = G5 a.toNatClampNeg) (e6 : z = G6 a.toNatClampNeg) (e7 : u = G7 a.toNatClampNeg) (g4 : H4 = upd G4 pl.toNatClampNeg x) (g5 : H5 = upd G5 pl.toNatClampNeg y) (g6 : H6 = upd G6 pl.toNatClampNeg z) (g7 : H7 = upd G7 pl.toNatClampNeg u) (hp : pl'.toInt = pl.toInt - 1) : KPL W4 W5 W6 W7 H4 H5 H6 H7 pl'.toInt hi := by
  have c := v_clamp (x := pl) (by omega)
  have ca : a.toNatClampNeg = pl.toNatClampNeg - 1 := ix_eq (by omega)
  intro i
  rw [g4, g5, g6, g7]
  refine ⟨fun k hk hi1 => ?_, fun k hk h1 h2 => ?_⟩
  · rw [CA_u (by omega)]; exact (h i).1 k hk (by omega)
  · by_cases w : i = pl.toNatClampNeg
    · subst w
      have q := (h (pl.toNatClampNeg - 1)).1 k hk (by omega)
      rw [CA_s, ← q, e4, e5, e6, e7, ca]
      rfl
    · rw [CA_u w]; exact (h i).2 k hk (by omega) h2
/-- keep(): the entry stands where it belongs -/
theorem kp_end {W4 W5 W6 W7 G4 G5 G6 G7 H4 H5 H6 H7 : Nat → Int32} {pl x y z u : Int32} {k0 k1 : Nat} {hi : Int} {e : Nat → Int} (h : KPL W4 W5 W6 W7 G4 G5 G6 G7 pl.toInt hi) (hs : srtA k0 (CA W4 W5 W6 W7)) (h0 : 0 ≤ pl.toInt) (hk : pl.toInt ≤ k0) (hk1 : (k1 : Int) ≤ hi + 1) (g4 : H4 = upd G4 pl.toNatClampNeg x) (g5 : H5 = upd G5 pl.toNatClampNeg y) (g6 : H6 = upd G6 pl.toNatClampNeg z) (g7 : H7 = upd G7 pl.toNatClampNeg u) (ex : x.toInt = e 0) (ey : y.toInt = e 1) (ez : z.toInt = e 2) (eu : u.toInt = e 3) (hbig : ∀ i : Nat, pl.toInt ≤ i → i < k0 → e 2 < CA W4 W5 W6 W7 i 2) (hsm : pl.toInt = 0 ∨ ∃ a q : Int32, a.toInt = pl.toInt - 1 ∧ q = G6 a.toNatClampNeg ∧ q.toInt ≤ e 2) : INSk k0 k1 (CA W4 W5 W6 W7) e (CA H4 H5 H6 H7) := by
  have c := v_clamp h0
  refine ⟨pl.toNatClampNeg, by omega, fun i hi1 => ?_, fun i h1 h2 => hbig i (by omega) h2, fun i hi1 k hk4 => ?_⟩
  · rcases hsm with w | ⟨a, q, a1, a2, a3⟩
    · omega
    · have ca := v_clamp (x := a) (by omega)
      have e1 : CA W4 W5 W6 W7 a.toNatClampNeg 2 = q.toInt := by
        rw [← (h a.toNatClampNeg).1 2 (by omega) (by omega), a2]; rfl
      by_cases w : i = a.toNatClampNeg
      · rw [w, e1]; exact a3
      · have := hs i a.toNatClampNeg (by omega) (by omega)
        omega
  · rw [g4, g5, g6, g7]
    by_cases c1 : i < pl.toNatClampNeg
    · rw [if_pos c1, CA_u (by omega)]; exact (h i).1 k hk4 (by omega)
    · rw [if_neg c1]
      by_cases c2 : i = pl.toNatClampNeg
      · subst c2
        rw [if_pos rfl, CA_s]
        rcases rk4 hk4 with w | w | w | w <;> subst w
        · exact ex
        · exact ey
        · exact ez
        · exact eu
      · rw [if_neg c2, CA_u c2]; exact (h i).2 k hk4 (by omega) (by omega)
theorem kp_full {W4 W5 W6 W7 : Nat → Int32} {q : Int32} {e : Nat → Int} (hs : srtA 200 (CA W4 W5 W6 W7)) (hq : q = W6 (Int32.toNatClampNeg 199)) (h : q.toInt ≤ e 2) : INSk 200 200 (CA W4 W5 W6 W7) e (CA W4 W5 W6 W7) := by
  have e1 : CA W4 W5 W6 W7 199 2 = q.toInt := by rw [hq]; rfl
  refine ⟨200, Nat.le_refl _, fun i hi => ?_, fun i h1 h2 => by omega, fun i hi k hk => by rw [if_pos hi]⟩
  by_cases w : i = 199
  · rw [w, e1]; exact h
  · have := hs i 199 (by omega) (by omega)
    omega
/-- what a choice's bytes give, read in a -/
def RDV (a : Int32) (L4 L5 : Nat → Int32) (T : Int32 → Int32 → Int32) (g : Nat → Int32) (m x1 x2 : Int) (e : Nat → Int) : Prop := ∃ c : Nat, rdOk (dl a L4 L5 g m) m c ∧ c ≤ 300 ∧ ∀ k, k < 4 → e k = ent x1 x2 (cT T c (fun i => dx a L4 L5 g m (psn (dl a L4 L5 g m) i))) c k
/-- and come back in b -/
def BVG (a b : Int32) (L4 L5 : Nat → Int32) (T : Int32 → Int32 → Int32) (g : Nat → Int32) (m : Int) (fm lm : Int32) (x1 x2 : Int) (e : Nat → Int) : Prop := (dl b L4 L5 g m lm.toNatClampNeg = 0 ∧ (fm.toInt = -1 ∨ dl b L4 L5 g m fm.toNatClampNeg = 0)) ∧ RDV a L4 L5 T g m x1 x2 e
/-- tryWhole: the letters up to behind the last mark, and the tail -/
theorem tw_yes {a re la su le s sm tf ts tl ls : Int32} {L4 L5 g W1 W2 W3 : Nat → Int32} {T : Int32 → Int32 → Int32} {m : Nat} {mi x1 x2 : Int} (em : mi = m) (hr : RS T re la su le (dl a L4 L5 g mi) (dx a L4 L5 g mi)) (ht : TLK T (dl a L4 L5 g mi) (dx a L4 L5 g mi) m W1 W2 W3 re.toNatClampNeg) (e1 : tf = W1 re.toNatClampNeg) (e2 : ts = W2 re.toNatClampNeg) (e3 : tl = W3 re.toNatClampNeg) (h3 : ¬ tl = -1) (hs : s.toInt = su.toInt + cF (T la tf) la tf) (hsm : sm.toInt = s.toInt + ts.toInt) (hls : ls.toInt = le.toInt + tl.toInt) (h300 : ls.toInt ≤ 300) : ∃ e, RDV a L4 L5 T g mi x1 x2 e ∧ ∀ k, k < 4 → e k = ent x1 x2 sm.toInt ls.toInt k := by
  subst em
  have hb := RS_b hr
  rcases ht with ⟨t1, _⟩ | ⟨c', t1, t2, t3, t4, t5, t6, t7, t8, t9⟩
  · exact absurd (e3.trans t1) h3
  · obtain ⟨q1, q2⟩ := RN_RF c' _ _ _ _ (RS_RN hr) t3
    rw [← e3] at t1
    have ec : ((le.toInt.toNat + c' : Nat) : Int) = ls.toInt := by omega
    have es : cT T ((le.toInt.toNat + c' : Nat) : Int) (fun i => dx a L4 L5 g m (psn (dl a L4 L5 g m) i)) = sm.toInt := by
      rw [q2, ← t4, ← e1, ← t7, ← e2]
      omega
    refine ⟨ent x1 x2 sm.toInt ls.toInt, ⟨le.toInt.toNat + c', q1, by omega, fun k hk => ?_⟩, fun _ _ => rfl⟩
    rw [es, ec]
theorem RDV_u {a : Int32} {L4 L5 g : Nat → Int32} {T : Int32 → Int32 → Int32} {m x1 x2 : Int} {e e' : Nat → Int} (h : RDV a L4 L5 T g m x1 x2 e) (h' : RDV a L4 L5 T g m x1 x2 e') : ∀ k, k < 4 → e k = e' k := by
  obtain ⟨c, a1, _, a3⟩ := h
  obtain ⟨c', b1, _, b3⟩ := h'
  have q := rd_uniq a1 b1
  subst q
  exact fun k hk => (a3 k hk).trans (b3 k hk).symm
theorem tw_no {a re la su le tl : Int32} {L4 L5 g W1 W2 W3 : Nat → Int32} {T : Int32 → Int32 → Int32} {m : Nat} {mi x1 x2 : Int} (em : mi = m) (hr : RS T re la su le (dl a L4 L5 g mi) (dx a L4 L5 g mi)) (hre : re.toInt ≤ mi) (ht : TLK T (dl a L4 L5 g mi) (dx a L4 L5 g mi) m W1 W2 W3 re.toNatClampNeg) (e3 : tl = W3 re.toNatClampNeg) (h3 : tl = -1 ∨ 300 < le.toInt + tl.toInt) : ∀ e, ¬ RDV a L4 L5 T g mi x1 x2 e := by
  subst em
  have hb := RS_b hr
  have c0 := v_clamp (x := re) (by omega)
  rintro e ⟨c, r1, r2, _⟩
  rcases ht with ⟨t1, t2⟩ | ⟨c', t1, t2, t3, _⟩
  · exact RN_no (RS_RN hr) (by omega) t2 c r1
  · obtain ⟨q1, _⟩ := RN_RF c' _ _ _ _ (RS_RN hr) t3
    have q := rd_uniq r1 q1
    rw [← e3] at t1
    rcases h3 with h3 | h3
    · have : tl.toInt = -1 := by rw [h3]; rfl
      omega
    · omega
theorem tw_stop {a re la su le : Int32} {L4 L5 g : Nat → Int32} {T : Int32 → Int32 → Int32} {mi x1 x2 : Int} (hr : RS T re la su le (dl a L4 L5 g mi) (dx a L4 L5 g mi)) (hre : re.toInt < mi) (h0 : dl a L4 L5 g mi re.toNatClampNeg = 0) : ∀ e, ¬ RDV a L4 L5 T g mi x1 x2 e := by
  obtain ⟨c, r1, r2, r3, r4, r5⟩ := hr
  rw [ix_eq r1] at h0
  rintro e ⟨c', q1, _⟩
  exact rd_stop r2 h0 (by omega) c' q1
/-- one step of the book, from what keep() did -/
theorem stp_y {V : Nat → (Nat → Int) → Prop} {t n n' : Nat} {B A : Nat → Nat → Int} {e : Nat → Int} (hV : V t e) (hn : n' = n + 1) (h : INSk (m200 n) (m200 (n + 1)) B e A) : STP V t n B n' A := Or.inl ⟨e, hV, hn, h⟩
theorem stp_n {V : Nat → (Nat → Int) → Prop} {t n n' : Nat} {B : Nat → Nat → Int} (hV : ∀ e, ¬ V t e) (hn : n' = n) : STP V t n B n' B := Or.inr ⟨hV, hn, fun _ _ _ _ => rfl⟩
theorem INS_e {k0 k1 : Nat} {B A : Nat → Nat → Int} {e e' : Nat → Int} (h : INSk k0 k1 B e A) (he : ∀ k, k < 4 → e k = e' k) : INSk k0 k1 B e' A := by
  obtain ⟨p, h1, h2, h3, h4⟩ := h
  refine ⟨p, h1, fun i hi => by rw [← he 2 (by omega)]; exact h2 i hi, fun i a b => by rw [← he 2 (by omega)]; exact h3 i a b, fun i hi k hk => ?_⟩
  rw [h4 i hi k hk, he k hk]
theorem upd_2 {f : Nat → Int32} {p : Nat} {x y : Int32} : upd (upd f p x) p y = upd f p y := by
  funext j
  by_cases w : j = p
  · rw [w, pk_us, pk_us]
  · rw [pk_un w, pk_un w, pk_un w]
theorem upd_c {f : Nat → Int32} {p q : Nat} {x y : Int32} (h : p ≠ q) : upd (upd f p x) q y = upd (upd f q y) p x := by
  funext j
  by_cases w : j = p
  · subst w
    rw [pk_un h, pk_us, pk_us]
  · by_cases w2 : j = q
    · subst w2
      rw [pk_us, pk_un w, pk_us]
    · rw [pk_un w2, pk_un w, pk_un w, pk_un w2]
def F_set (l i v : Int32) (f f' : Nat → Int32) : Prop := (0 ≤ i.toInt ∧ i.toInt < l.toInt ∧ f' = upd f i.toNatClampNeg v) ∨ ((i.toInt < 0 ∨ l.toInt ≤ i.toInt) ∧ f' = f)
theorem F_set_f {l i v : Int32} {f f' : Nat → Int32} (h : F_set l i v f f') (h0 : 0 ≤ i.toInt) (h1 : i.toInt < l.toInt) : f' = upd f i.toNatClampNeg v := by
  rcases h with h | h
  · exact h.2.2
  · have := h.1
    omega
theorem prg_upd {m lo hi : Int} {f f' : Nat → Int32} {p : Nat} {x : Int32} (h : prg m lo hi f) (e : f' = upd f p x) (hx : lo ≤ x.toInt ∧ x.toInt ≤ hi) : prg m lo hi f' := fun j hj => by
  rw [e]
  by_cases w : j = p
  · rw [w, pk_us]; exact hx
  · rw [pk_un w]; exact h j hj
/-! layOut, findTails, comesBack of the class -/
def LOI (b : Int32) (Bf : Int32 → Int32) (f : Nat → Int32) (i : Nat) (l : Int32) (g : Nat → Int32) (fm lm : Int32) : Prop := WR (EV b Bf f 0 0) i l g ∧ ((mkB f i = 0 ∧ fm.toInt = -1 ∧ lm.toInt = -1) ∨ (mkB f i = 1 ∧ fm.toInt = -1 ∧ ∃ i1, i1 < i ∧ f i1 = 65533 ∧ mkB f i1 = 0 ∧ lm.toInt = psE (EV b Bf f 0 0) i1) ∨ (mkB f i = 2 ∧ ∃ i1 i2, i1 < i ∧ i2 < i ∧ f i1 = 65533 ∧ f i2 = 65533 ∧ mkB f i1 = 0 ∧ mkB f i2 = 1 ∧ fm.toInt = psE (EV b Bf f 0 0) i1 ∧ lm.toInt = psE (EV b Bf f 0 0) i2) ∨ 3 ≤ mkB f i)
def F_lo (r l fm lm : Int32) (g : Nat → Int32) (b : Int32) (Bf : Int32 → Int32) (f : Nat → Int32) (n : Int) : Prop := (r.toInt = -1 ∧ LOI b Bf f n.toNat l g fm lm) ∨ ∃ i : Nat, r.toInt = i ∧ (i : Int) < n ∧ EV b Bf f 0 0 i = [] ∧ ∀ j, j < i → ¬ EV b Bf f 0 0 j = []
theorem LO_0 {b l fm lm : Int32} {Bf : Int32 → Int32} {f g : Nat → Int32} {i : Nat} (hi : i = 0) (hl : l.toInt = 0) (h1 : fm.toInt = -1) (h2 : lm.toInt = -1) : LOI b Bf f i l g fm lm := by
  subst hi
  exact ⟨WR_0 hl, Or.inl ⟨rfl, h1, h2⟩⟩
theorem LO_m {b l l' fm lm fm' lm' r v : Int32} {Bf : Int32 → Int32} {f g g' : Nat → Int32} {i i' : Nat} (h : LOI b Bf f i l g fm lm) (hm : f i = 65533) (ha : F_add 800 l l' r g g' v) (hv : v.toInt = 0) (h0 : 0 ≤ l.toInt) (h8 : l.toInt < 800) (e1 : fm' = lm) (e2 : lm'.toInt = l.toInt) (ei : i' = i + 1) : LOI b Bf f i' l' g' fm' lm' := by
  subst ei
  obtain ⟨h1, h2⟩ := h
  have eE : EV b Bf f 0 0 i = [v.toInt] := by
    rw [EV_m hm, hv]
    split <;> rfl
  have ap : AP l l' g g' ([] ++ [v.toInt]) := AP_s AP_0 h0 ha h8
  have w : WR (EV b Bf f 0 0) (i + 1) l' g' := WR_s h1 (by rw [eE]; exact List.cons_ne_nil _ _) (by rw [eE]; exact ap)
  refine ⟨w, ?_⟩
  have el := h1.1
  rw [mkB_y hm]
  rcases h2 with ⟨q1, q2, q3⟩ | ⟨q1, q2, i1, q3, q4, q5, q6⟩ | ⟨q1, q2⟩ | q
  · exact Or.inr (Or.inl ⟨by omega, by rw [e1]; exact q3, i, by omega, hm, q1, by omega⟩)
  · exact Or.inr (Or.inr (Or.inl ⟨by omega, i1, i, by omega, by omega, q4, hm, q5, q1, by rw [e1]; exact q6, by omega⟩))
  · exact Or.inr (Or.inr (Or.inr (by omega)))
  · exact Or.inr (Or.inr (Or.inr (by omega)))
theorem LO_n {b l l' fm lm r x B : Int32} {Bf : Int32 → Int32} {f g g' : Nat → Int32} {i i' : Nat} (h : LOI b Bf f i l g fm lm) (hm : ¬ f i = 65533) (ex : x = f i) (eB : B = Bf (f i)) (hf : F_en r b x B l l' g g') (hr : ¬ r.toInt = 0) (ei : i' = i + 1) : LOI b Bf f i' l' g' fm lm := by
  subst ei
  subst eB
  subst ex
  obtain ⟨h1, h2⟩ := h
  obtain ⟨a1, a2⟩ := F_en_1 hf hr
  have eE := EV_n (b := b) (Bf := Bf) (v1 := 0) (v2 := 0) hm
  refine ⟨WR_s h1 (by rw [eE]; exact a1) (by rw [eE]; exact a2), ?_⟩
  rw [mkB_n hm]
  rcases h2 with q | ⟨q1, q2, i1, q3, q4⟩ | ⟨q1, i1, i2, q2, q3, q4⟩ | q
  · exact Or.inl q
  · exact Or.inr (Or.inl ⟨q1, q2, i1, by omega, q4⟩)
  · exact Or.inr (Or.inr (Or.inl ⟨q1, i1, i2, by omega, by omega, q4⟩))
  · exact Or.inr (Or.inr (Or.inr q))
theorem LO_f {b l fm lm r x B l9 fm9 lm9 q : Int32} {Bf : Int32 → Int32} {f g g' g9 : Nat → Int32} {i : Nat} {l' : Int32} {n : Int} (h : LOI b Bf f i l g fm lm) (hm : ¬ f i = 65533) (ex : x = f i) (eB : B = Bf (f i)) (hf : F_en r b x B l l' g g') (hr : r.toInt = 0) (hq : q.toInt = i) (hn : (i : Int) < n) : F_lo q l9 fm9 lm9 g9 b Bf f n := by
  subst eB
  subst ex
  refine Or.inr ⟨i, hq, hn, ?_, fun j hj => (h.1.2 j hj).1⟩
  rw [EV_n hm]
  exact F_en_0 hf hr
theorem tl_0 {T : Int32 → Int32 → Int32} {D : Nat → Nat} {X W1 W2 W3 W1' W2' W3' : Nat → Int32} {m p : Nat} (e1 : W1' = upd W1 m 32) (e2 : W2' = upd W2 m 0) (e3 : W3' = upd W3 m 0) (hp : p = m) : TLK T D X m W1' W2' W3' p := by
  subst hp
  have f1 : W1' p = 32 := by rw [e1, pk_us]
  have f2 : W2' p = 0 := by rw [e2, pk_us]
  have f3 : W3' p = 0 := by rw [e3, pk_us]
  refine Or.inr ⟨0, by rw [f3]; rfl, by omega, rfl, f1, ?_, ?_, by rw [f2]; rfl, ?_, ?_⟩
  · rw [f1]; decide
  · rw [f1]; decide
  · rw [f2]; decide
  · rw [f2]; decide
theorem tl_k {T : Int32 → Int32 → Int32} {D : Nat → Nat} {X W1 W2 W3 W1' W2' W3' : Nat → Int32} {m p q : Nat} {x y z : Int32} (h : TLK T D X m W1 W2 W3 p) (hq : p ≠ q) (e1 : W1' = upd W1 q x ∨ W1' = W1) (e2 : W2' = upd W2 q y ∨ W2' = W2) (e3 : W3' = upd W3 q z) : TLK T D X m W1' W2' W3' p := by
  have f1 : W1' p = W1 p := by rcases e1 with e | e <;> rw [e]; exact pk_un hq
  have f2 : W2' p = W2 p := by rcases e2 with e | e <;> rw [e]; exact pk_un hq
  have f3 : W3' p = W3 p := by rw [e3, pk_un hq]
  unfold TLK
  rw [f1, f2, f3]
  exact h
theorem tl_n {T : Int32 → Int32 → Int32} {D : Nat → Nat} {X W1 W2 W3 W3' : Nat → Int32} {m p : Nat} (e3 : W3' = upd W3 p (-1)) (hn : ∀ c, ¬ RF D m c p) : TLK T D X m W1 W2 W3' p := Or.inl ⟨by rw [e3, pk_us], hn⟩
theorem tl_no0 {D : Nat → Nat} {m p : Nat} (h0 : D p = 0) (hp : p < m) : ∀ c, ¬ RF D m c p := by
  intro c h
  cases c with
  | zero =>
    have h : p = m := h
    omega
  | succ c => exact h.1 h0
theorem tl_non {T : Int32 → Int32 → Int32} {D : Nat → Nat} {X W1 W2 W3 : Nat → Int32} {m p q : Nat} (ht : TLK T D X m W1 W2 W3 q) (hq : q = p + D p) (h3 : W3 q = -1) (hp : p < m) : ∀ c, ¬ RF D m c p := by
  intro c h
  cases c with
  | zero =>
    have h : p = m := h
    omega
  | succ c =>
    obtain ⟨_, h2⟩ := h
    rw [← hq] at h2
    rcases ht with ⟨_, t2⟩ | ⟨c', t1, _⟩
    · exact t2 _ h2
    · rw [h3] at t1
      have m1 : (-1 : Int32).toInt = -1 := rfl
      omega
theorem tl_y {T : Int32 → Int32 → Int32} {D : Nat → Nat} {X W1 W2 W3 W1' W2' W3' : Nat → Int32} {m p q : Nat} {x sn s l r ln fn : Int32} (ht : TLK T D X m W1 W2 W3 q) (hD : ¬ D p = 0) (hq : q = p + D p) (h3 : ¬ W3 q = -1) (ex : x = X p) (e1 : W1' = upd W1 p x) (e2 : W2' = upd W2 p s) (e3 : W3' = upd W3 p l) (esn : sn = W2 q) (efn : fn = W1 q) (eln : ln = W3 q) (hr : r.toInt = cF (T x fn) x fn) (hs : s.toInt = sn.toInt + r.toInt) (hl : l.toInt = ln.toInt + 1) (hr2 : 0 ≤ r.toInt ∧ r.toInt ≤ 200) (hx : 0 ≤ x.toInt ∧ x.toInt ≤ 65535) (h8 : l.toInt ≤ 800) : TLK T D X m W1' W2' W3' p := by
  rcases ht with ⟨t1, _⟩ | ⟨c, t1, t2, t3, t4, t5, t6, t7, t8, t9⟩
  · exact absurd t1 h3
  · have f1 : W1' p = x := by rw [e1, pk_us]
    have f2 : W2' p = s := by rw [e2, pk_us]
    have f3 : W3' p = l := by rw [e3, pk_us]
    subst hq
    refine Or.inr ⟨c + 1, by rw [f3, hl, eln, t1]; rfl, by rw [eln] at hl; omega, ⟨hD, t3⟩, by rw [f1, ex]; rfl, by rw [f1]; exact hx.1, by rw [f1]; exact hx.2, ?_, by rw [f2, hs, esn]; omega, by rw [f2, hs, esn]; omega⟩
    rw [f2, hs, esn, t7, hr, efn, t4, ex, tsF]
    omega
