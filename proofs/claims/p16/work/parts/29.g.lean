/-! 59p.rows -/
section
/-! rows of harms: harm h undone (UC: the class's, UR: the reference's), one behind another (UNL), and the book of all rows (rGE) -/
def UC (H1 H2 f41 f42 f43 f51 f52 f53 : Nat → Int32) (h n : Nat) (f : Nat → Int32) (c : Nat) (f' : Nat → Int32) : Prop := HM (H2 h) (H1 h) f41 f51 (Bc (H2 h) f42 f43 f52 f53) n f c f'
def UR (e1 e2 eL eB : Nat → Int32) (h n : Nat) (f : Nat → Int32) (c : Nat) (f' : Nat → Int32) : Prop := HM (e2 h) (e1 h) (fun k => eL k) (fun k => eL (256 + k)) (Br (e2 h) eB) n f c f'
def okU (U : Nat → Nat → (Nat → Int32) → Nat → (Nat → Int32) → Prop) : Prop :=
  (∀ (h n c c' : Nat) (f f1 f2 : Nat → Int32), prg n 0 65535 f → U h n f c f1 → U h n f c' f2 → c = c' ∧ ∀ i, i < c → f1 i = f2 i) ∧
  (∀ (h n c : Nat) (f g f' : Nat → Int32), (∀ i, i < n → f i = g i) → U h n f c f' → U h n g c f') ∧
  (∀ (h n c : Nat) (f f' : Nat → Int32), prg n 0 65535 f → U h n f c f' → c ≤ 300 ∧ prg c 0 65535 f') ∧
  ∀ (h n c : Nat) (f f1 f2 : Nat → Int32), (∀ i, i < c → f2 i = f1 i) → U h n f c f1 → U h n f c f2
theorem HM_c {a b : Int32} {L4 L5 : Nat → Int32} {Bf : Int32 → Int32} {n c : Nat} {f f' : Nat → Int32} (h : HM a b L4 L5 Bf n f c f') : c ≤ 300 := by
  obtain ⟨m, g, a1, a2, a3, a4, a5⟩ := h
  exact a4
theorem okU_C {H1 H2 f41 f42 f43 f51 f52 f53 : Nat → Int32} (hB : ∀ cd : Int32, okB (Bc cd f42 f43 f52 f53)) (h4 : prg 256 (-1) 65535 f41) (h5 : prg 256 (-1) 65535 f51) : okU (UC H1 H2 f41 f42 f43 f51 f52 f53) :=
  ⟨fun _ _ _ _ _ _ _ hf a b => HM_u hf (hB _) a b, fun _ _ _ _ _ _ e a => HM_g a e, fun _ _ _ _ _ hf a => ⟨HM_c a, HM_r hf (hB _) h4 h5 a⟩, fun _ _ _ _ _ _ e a => HM_f a e⟩
theorem okU_R {e1 e2 eL eB : Nat → Int32} (gB : rg (-1) 255 eB) (gL : rg (-1) 65535 eL) : okU (UR e1 e2 eL eB) :=
  ⟨fun _ _ _ _ _ _ _ hf a b => HM_u hf (okB_r gB) a b, fun _ _ _ _ _ _ e a => HM_g a e, fun _ _ _ _ _ hf a => ⟨HM_c a, HM_r hf (okB_r gB) (rg_prg gL) (rg_L5 gL) a⟩, fun _ _ _ _ _ _ e a => HM_f a e⟩
theorem okB_C {l4 l5 a : Int32} {f41 f42 f43 f51 f52 f53 eL eB eD : Nat → Int32} (R4 : TR 0 l4 f41 f42 f43 eL eB eD) (R5 : TR 1 l5 f51 f52 f53 eL eB eD) (gB : rg (-1) 255 eB) : okB (Bc a f42 f43 f52 f53) := by
  intro x h1 h2
  unfold Bc
  split
  · rw [TR_bf R4 h1 h2]; exact gB _
  · rw [TR_bf R5 h1 h2]; exact gB _
theorem UCR {l4 l5 : Int32} {H1 H2 e1 e2 f41 f42 f43 f51 f52 f53 eL eB eD f f' : Nat → Int32} {h n c : Nat} (R4 : TR 0 l4 f41 f42 f43 eL eB eD) (R5 : TR 1 l5 f51 f52 f53 eL eB eD) (gB : rg (-1) 255 eB) (q1 : H1 h = e1 h) (q2 : H2 h = e2 h) (hf : prg n 0 65535 f) : UC H1 H2 f41 f42 f43 f51 f52 f53 h n f c f' ↔ UR e1 e2 eL eB h n f c f' := by
  unfold UC UR
  rw [q1, q2]
  constructor
  · intro a
    exact HM_t hf (okB_C R4 R5 gB) (fun j hj => rfl) (TR_L4 R4) (TR_L5 R5) (fun x h1 h2 => enc_eq R4 R5 h1 h2) a
  · intro a
    exact HM_t hf (okB_r gB) (fun j hj => rfl) (fun k hk => (TR_L4 R4 k hk).symm) (fun k hk => (TR_L5 R5 k hk).symm) (fun x h1 h2 => (enc_eq R4 R5 h1 h2).symm) a
/-- what takeOff and undoes answer -/
def F_to (U : Nat → Nat → (Nat → Int32) → Nat → (Nat → Int32) → Prop) (r l : Int32) (f' : Nat → Int32) (h : Nat) (n : Int) (f : Nat → Int32) : Prop := (r = 1 ∧ ∃ c : Nat, l.toInt = c ∧ U h n.toNat f c f') ∨ (r = 0 ∧ ∀ (c : Nat) (f2 : Nat → Int32), ¬ U h n.toNat f c f2)
theorem to_1 {U : Nat → Nat → (Nat → Int32) → Nat → (Nat → Int32) → Prop} {r l : Int32} {f f' : Nat → Int32} {h : Nat} {n : Int} (a : F_to U r l f' h n f) (e : ¬ r.toInt = 0) : ∃ c : Nat, l.toInt = c ∧ U h n.toNat f c f' := a.elim (fun z => z.2) (fun z => absurd (by rw [z.1]; rfl) e)
theorem to_0 {U : Nat → Nat → (Nat → Int32) → Nat → (Nat → Int32) → Prop} {r l : Int32} {f f' : Nat → Int32} {h : Nat} {n : Int} (a : F_to U r l f' h n f) (e : r.toInt = 0) : ∀ (c : Nat) (f2 : Nat → Int32), ¬ U h n.toNat f c f2 := by
  rcases a with a | a
  · rw [a.1] at e; exact absurd e (by decide)
  · exact a.2
theorem to_1n {U : Nat → Nat → (Nat → Int32) → Nat → (Nat → Int32) → Prop} {r l : Int32} {f f' : Nat → Int32} {h : Nat} {n : Int} (a : F_to U r l f' h n f) (e : ¬ r.toInt = 0) : U h n.toNat f l.toInt.toNat f' := by
  obtain ⟨c, c1, c2⟩ := to_1 a e
  have : l.toInt.toNat = c := by omega
  rw [this]; exact c2
/-- harms undone one behind another -/
def UNL (U : Nat → Nat → (Nat → Int32) → Nat → (Nat → Int32) → Prop) : List Nat → Nat → (Nat → Int32) → Nat → (Nat → Int32) → Prop
  | [], n, f, c, f' => c = n ∧ ∀ i, i < c → f' i = f i
  | h :: t, n, f, c, f' => ∃ (m : Nat) (g : Nat → Int32), U h n f m g ∧ UNL U t m g c f'
section RWS
variable {U V : Nat → Nat → (Nat → Int32) → Nat → (Nat → Int32) → Prop}
theorem UNL_g (hU : okU U) : ∀ (l : List Nat) (n c : Nat) (f g f' : Nat → Int32), (∀ i, i < n → f i = g i) → UNL U l n f c f' → UNL U l n g c f'
  | [], n, c, f, g, f', e, h => ⟨h.1, fun i hi => (h.2 i hi).trans (e i (by have := h.1; omega))⟩
  | _ :: _, n, c, f, g, f', e, ⟨m, g1, a1, a2⟩ => ⟨m, g1, hU.2.1 _ _ _ _ _ _ e a1, a2⟩
theorem UNL_f (hU : okU U) : ∀ (l : List Nat) (n c : Nat) (f f1 f2 : Nat → Int32), (∀ i, i < c → f2 i = f1 i) → UNL U l n f c f1 → UNL U l n f c f2
  | [], n, c, f, f1, f2, e, h => ⟨h.1, fun i hi => (e i hi).trans (h.2 i hi)⟩
  | _ :: t, n, c, f, f1, f2, e, ⟨m, g1, a1, a2⟩ => ⟨m, g1, a1, UNL_f hU t _ _ _ _ _ e a2⟩
theorem UNL_cons (hU : okU U) {h n m c : Nat} {t : List Nat} {f g f' : Nat → Int32} (hf : prg n 0 65535 f) (h1 : U h n f m g) : UNL U (h :: t) n f c f' ↔ UNL U t m g c f' := by
  constructor
  · rintro ⟨m', g', a, b⟩
    obtain ⟨q1, q2⟩ := hU.1 _ _ _ _ _ _ _ hf a h1
    subst q1
    exact UNL_g hU _ _ _ _ _ _ q2 b
  · exact fun b => ⟨m, g, h1, b⟩
theorem UNL_no {h n : Nat} {t : List Nat} {f : Nat → Int32} (h1 : ∀ (m : Nat) (g : Nat → Int32), ¬ U h n f m g) : ∀ c f', ¬ UNL U (h :: t) n f c f' := fun _ _ ⟨m, g, a, _⟩ => h1 m g a
theorem UNL_r (hU : okU U) : ∀ (l : List Nat) (n c : Nat) (f f' : Nat → Int32), n ≤ 300 → prg n 0 65535 f → UNL U l n f c f' → c ≤ 300 ∧ prg c 0 65535 f'
  | [], n, c, f, f', hn, hf, h => ⟨by have := h.1; omega, fun j hj => by rw [h.2 j (by omega)]; exact hf j (by have := h.1; omega)⟩
  | _ :: t, n, c, f, f', hn, hf, ⟨m, g1, a1, a2⟩ => by
    obtain ⟨q1, q2⟩ := hU.2.2.1 _ _ _ _ _ hf a1
    exact UNL_r hU t _ _ _ _ q1 q2 a2
theorem UNL_u (hU : okU U) : ∀ (l : List Nat) (n c c' : Nat) (f f1 f2 : Nat → Int32), prg n 0 65535 f → UNL U l n f c f1 → UNL U l n f c' f2 → c = c' ∧ ∀ i, i < c → f1 i = f2 i
  | [], n, c, c', f, f1, f2, _, h, h' => ⟨by rw [h.1, h'.1], fun i hi => (h.2 i hi).trans (h'.2 i (by have := h.1; have := h'.1; omega)).symm⟩
  | _ :: t, n, c, c', f, f1, f2, hf, ⟨m, g1, a1, a2⟩, h' => by
    have q := (hU.2.2.1 _ _ _ _ _ hf a1).2
    exact UNL_u hU t _ _ _ _ _ _ q a2 ((UNL_cons hU hf a1).mp h')
theorem UNL_iff (hU : okU U) : ∀ (l : List Nat) (n c : Nat) (f f' : Nat → Int32), (∀ h, h ∈ l → ∀ (n c : Nat) (f f' : Nat → Int32), prg n 0 65535 f → (U h n f c f' ↔ V h n f c f')) → prg n 0 65535 f → (UNL U l n f c f' ↔ UNL V l n f c f')
  | [], _, _, _, _, _, _ => Iff.rfl
  | h :: t, n, c, f, f', e, hf => by
    constructor
    · rintro ⟨m, g, a, b⟩
      have q := (hU.2.2.1 _ _ _ _ _ hf a).2
      exact ⟨m, g, (e h List.mem_cons_self _ _ _ _ hf).mp a, (UNL_iff hU t _ _ _ _ (fun h' hh => e h' (List.mem_cons_of_mem _ hh)) q).mp b⟩
    · rintro ⟨m, g, a, b⟩
      have a' := (e h List.mem_cons_self _ _ _ _ hf).mpr a
      have q := (hU.2.2.1 _ _ _ _ _ hf a').2
      exact ⟨m, g, a', (UNL_iff hU t _ _ _ _ (fun h' hh => e h' (List.mem_cons_of_mem _ hh)) q).mpr b⟩
/-- the harms of a row told by its number: the last one first -/
def digs (z : Nat) : Nat → Nat → List Nat
  | 0, _ => []
  | k + 1, c => (c % z) :: digs z k (c / z)
theorem digs_lt {z : Nat} (hz : 1 ≤ z) : ∀ (k c h : Nat), h ∈ digs z k c → h < z
  | 0, _, _, hh => by cases hh
  | k + 1, c, h, hh => by
    rcases List.mem_cons.mp hh with e | e
    · rw [e]; exact Nat.mod_lt _ (by omega)
    · exact digs_lt hz k _ h e
def roff (z : Nat) : Nat → Nat
  | 0 => 0
  | 1 => 0
  | 2 => z
  | 3 => z + z * z
  | _ => z + z * z + z * z * z
def rpz (z : Nat) : Nat → Nat
  | 0 => 1
  | 1 => z
  | 2 => z * z
  | _ => z * z * z
theorem rz7 {z : Nat} (h : z ≤ 6) : z = 0 ∨ z = 1 ∨ z = 2 ∨ z = 3 ∨ z = 4 ∨ z = 5 ∨ z = 6 := by omega
theorem rk3 {k : Nat} (h1 : 1 ≤ k) (h : k ≤ 3) : k = 1 ∨ k = 2 ∨ k = 3 := by omega
theorem roff_s {z k : Nat} (h1 : 1 ≤ k) (h : k ≤ 3) : roff z (k + 1) = roff z k + rpz z k := by
  rcases rk3 h1 h with e | e | e <;> subst e
  · show z = 0 + z; omega
  · rfl
  · rfl
theorem roff_4 {z : Nat} (hz : z ≤ 6) : roff z 4 ≤ 258 := by
  rcases rz7 hz with e | e | e | e | e | e | e <;> subst e <;> decide
theorem roff_m {z k k' : Nat} (h1 : 1 ≤ k) (h : k ≤ k') (h' : k' ≤ 4) : roff z k ≤ roff z k' := by
  have a : roff z 1 ≤ roff z 2 := by show 0 ≤ _; omega
  have b : roff z 2 ≤ roff z 3 := Nat.le_add_right _ _
  have c : roff z 3 ≤ roff z 4 := Nat.le_add_right _ _
  have k4 : k = 1 ∨ k = 2 ∨ k = 3 ∨ k = 4 := by omega
  have k4' : k' = 1 ∨ k' = 2 ∨ k' = 3 ∨ k' = 4 := by omega
  rcases k4 with e | e | e | e <;> rcases k4' with e' | e' | e' | e' <;> subst e <;> subst e' <;> omega
/-- what stands at a place of the book -/
def rEN (T : Int32 → Int32 → Int32) (p : Nat) (M : Nat → (Nat → Int32) → Prop) (h1 h2 h3 : Int) (R1 R2 R3 : Nat → Int32) : Prop := (∃ (c : Nat) (f' : Nat → Int32), M c f' ∧ (R1 p).toInt = cT T c f' ∧ (R2 p).toInt = c ∧ (R3 (3 * p)).toInt = h1 ∧ (R3 (3 * p + 1)).toInt = h2 ∧ (R3 (3 * p + 2)).toInt = h3 ∧ 0 ≤ (R1 p).toInt) ∨ ((∀ c f', ¬ M c f') ∧ R1 p = -1)
/-- the book with some rows done: S1, S2, S3 say which -/
def rF1 (U : Nat → Nat → (Nat → Int32) → Nat → (Nat → Int32) → Prop) (T : Int32 → Int32 → Int32) (z n : Nat) (f : Nat → Int32) (S1 : Nat → Prop) (S2 : Nat → Nat → Prop) (S3 : Nat → Nat → Nat → Prop) (R1 R2 R3 : Nat → Int32) : Prop :=
  (∀ a : Nat, a < z → (S1 a → rEN T a (UNL U [a] n f) a (-1) (-1) R1 R2 R3) ∧ (¬ S1 a → R1 a = -1)) ∧
  (∀ a b : Nat, a < z → b < z → (S2 a b → rEN T (z + b * z + a) (UNL U [a, b] n f) b a (-1) R1 R2 R3) ∧ (¬ S2 a b → R1 (z + b * z + a) = -1)) ∧
  (∀ a b c : Nat, a < z → b < z → c < z → (S3 a b c → rEN T (z + z * z + (c * z + b) * z + a) (UNL U [a, b, c] n f) c b a R1 R2 R3) ∧ (¬ S3 a b c → R1 (z + z * z + (c * z + b) * z + a) = -1)) ∧
  ∀ p : Nat, z + z * z + z * z * z ≤ p → p < 258 → R1 p = -1
theorem rF1_ch {T : Int32 → Int32 → Int32} {z n : Nat} {f : Nat → Int32} {S1 S1' : Nat → Prop} {S2 S2' : Nat → Nat → Prop} {S3 S3' : Nat → Nat → Nat → Prop} {R1 R2 R3 : Nat → Int32} (h : rF1 U T z n f S1 S2 S3 R1 R2 R3)
    (c1 : ∀ a, a < z → (S1 a → S1' a) ∧ (S1' a → S1 a ∨ ∀ c f', ¬ UNL U [a] n f c f'))
    (c2 : ∀ a b, a < z → b < z → (S2 a b → S2' a b) ∧ (S2' a b → S2 a b ∨ ∀ c f', ¬ UNL U [a, b] n f c f'))
    (c3 : ∀ a b c, a < z → b < z → c < z → (S3 a b c → S3' a b c) ∧ (S3' a b c → S3 a b c ∨ ∀ c2 f', ¬ UNL U [a, b, c] n f c2 f')) : rF1 U T z n f S1' S2' S3' R1 R2 R3 := by
  refine ⟨fun a ha => ⟨fun s => ?_, fun s => (h.1 a ha).2 (fun w => s ((c1 a ha).1 w))⟩, fun a b ha hb => ⟨fun s => ?_, fun s => (h.2.1 a b ha hb).2 (fun w => s ((c2 a b ha hb).1 w))⟩, fun a b c ha hb hc => ⟨fun s => ?_, fun s => (h.2.2.1 a b c ha hb hc).2 (fun w => s ((c3 a b c ha hb hc).1 w))⟩, h.2.2.2⟩
  · by_cases w : S1 a
    · exact (h.1 a ha).1 w
    · exact Or.inr ⟨((c1 a ha).2 s).resolve_left w, (h.1 a ha).2 w⟩
  · by_cases w : S2 a b
    · exact (h.2.1 a b ha hb).1 w
    · exact Or.inr ⟨((c2 a b ha hb).2 s).resolve_left w, (h.2.1 a b ha hb).2 w⟩
  · by_cases w : S3 a b c
    · exact (h.2.2.1 a b c ha hb hc).1 w
    · exact Or.inr ⟨((c3 a b c ha hb hc).2 s).resolve_left w, (h.2.2.1 a b c ha hb hc).2 w⟩
/-- a row is written at the place p -/
def rWP (p : Nat) (x y u v w : Int32) (R1 R1' R2 R2' R3 R3' : Nat → Int32) : Prop := R1' = upd R1 p x ∧ R2' = upd R2 p y ∧ R3' = upd (upd (upd R3 (3 * p) u) (3 * p + 1) v) (3 * p + 2) w
theorem rWP_o {p q : Nat} {x y u v w : Int32} {R1 R1' R2 R2' R3 R3' : Nat → Int32} (h : rWP p x y u v w R1 R1' R2 R2' R3 R3') (hq : q ≠ p) : R1' q = R1 q ∧ R2' q = R2 q ∧ R3' (3 * q) = R3 (3 * q) ∧ R3' (3 * q + 1) = R3 (3 * q + 1) ∧ R3' (3 * q + 2) = R3 (3 * q + 2) := by
  obtain ⟨h1, h2, h3⟩ := h
  refine ⟨by rw [h1, pk_un hq], by rw [h2, pk_un hq], ?_, ?_, ?_⟩
  · rw [h3, pk_un (by omega), pk_un (by omega), pk_un (by omega)]
  · rw [h3, pk_un (by omega), pk_un (by omega), pk_un (by omega)]
  · rw [h3, pk_un (by omega), pk_un (by omega), pk_un (by omega)]
theorem rWP_s {p : Nat} {x y u v w : Int32} {R1 R1' R2 R2' R3 R3' : Nat → Int32} (h : rWP p x y u v w R1 R1' R2 R2' R3 R3') : R1' p = x ∧ R2' p = y ∧ R3' (3 * p) = u ∧ R3' (3 * p + 1) = v ∧ R3' (3 * p + 2) = w := by
  obtain ⟨h1, h2, h3⟩ := h
  refine ⟨by rw [h1, pk_us], by rw [h2, pk_us], ?_, ?_, ?_⟩
  · rw [h3, pk_un (by omega), pk_un (by omega), pk_us]
  · rw [h3, pk_un (by omega), pk_us]
  · rw [h3, pk_us]
theorem rEN_o {T : Int32 → Int32 → Int32} {p q : Nat} {x y u v w : Int32} {R1 R1' R2 R2' R3 R3' : Nat → Int32} {M : Nat → (Nat → Int32) → Prop} {h1 h2 h3 : Int} (h : rWP p x y u v w R1 R1' R2 R2' R3 R3') (hq : q ≠ p) (a : rEN T q M h1 h2 h3 R1 R2 R3) : rEN T q M h1 h2 h3 R1' R2' R3' := by
  obtain ⟨o1, o2, o3, o4, o5⟩ := rWP_o h hq
  unfold rEN
  rw [o1, o2, o3, o4, o5]
  exact a
theorem rEN_s {T : Int32 → Int32 → Int32} {p c : Nat} {x y u v w : Int32} {f' R1 R1' R2 R2' R3 R3' : Nat → Int32} {M : Nat → (Nat → Int32) → Prop} {h1 h2 h3 : Int} (h : rWP p x y u v w R1 R1' R2 R2' R3 R3') (hM : M c f') (hx : x.toInt = cT T c f') (hx0 : 0 ≤ x.toInt) (hy : y.toInt = c) (hu : u.toInt = h1) (hv : v.toInt = h2) (hw : w.toInt = h3) : rEN T p M h1 h2 h3 R1' R2' R3' := by
  obtain ⟨o1, o2, o3, o4, o5⟩ := rWP_s h
  exact Or.inl ⟨c, f', hM, by rw [o1]; exact hx, by rw [o2]; exact hy, by rw [o3]; exact hu, by rw [o4]; exact hv, by rw [o5]; exact hw, by rw [o1]; exact hx0⟩
theorem rp_12 {z a a' b' : Nat} (ha : a < z) : a ≠ z + b' * z + a' := by omega
theorem rp_23 {z a b a' b' c' : Nat} (hz : z ≤ 6) (ha : a < z) (hb : b < z) : z + b * z + a ≠ z + z * z + (c' * z + b') * z + a' := by
  rcases rz7 hz with e | e | e | e | e | e | e <;> subst e <;> omega
theorem rp_13 {z a a' b' c' : Nat} (ha : a < z) : a ≠ z + z * z + (c' * z + b') * z + a' := by omega
theorem rp_22 {z a b a' b' : Nat} (hz : z ≤ 6) (ha : a < z) (hb : b < z) (ha' : a' < z) (hb' : b' < z) (h : z + b * z + a = z + b' * z + a') : a = a' ∧ b = b' := by
  rcases rz7 hz with e | e | e | e | e | e | e <;> subst e <;> omega
theorem rp_33 {z a b c a' b' c' : Nat} (hz : z ≤ 6) (ha : a < z) (hb : b < z) (hc : c < z) (ha' : a' < z) (hb' : b' < z) (hc' : c' < z) (h : z + z * z + (c * z + b) * z + a = z + z * z + (c' * z + b') * z + a') : a = a' ∧ b = b' ∧ c = c' := by
  rcases rz7 hz with e | e | e | e | e | e | e <;> subst e <;> omega
theorem rp_1e {z a p : Nat} (ha : a < z) (hp : z + z * z + z * z * z ≤ p) : p ≠ a := by omega
theorem rp_2e {z a b p : Nat} (hz : z ≤ 6) (ha : a < z) (hb : b < z) (hp : z + z * z + z * z * z ≤ p) : p ≠ z + b * z + a := by
  rcases rz7 hz with e | e | e | e | e | e | e <;> subst e <;> omega
theorem rp_3e {z a b c p : Nat} (hz : z ≤ 6) (ha : a < z) (hb : b < z) (hc : c < z) (hp : z + z * z + z * z * z ≤ p) : p ≠ z + z * z + (c * z + b) * z + a := by
  rcases rz7 hz with e | e | e | e | e | e | e <;> subst e <;> omega
/-- the book while it is made: by the numbers of its loops -/
def rG1 (U : Nat → Nat → (Nat → Int32) → Nat → (Nat → Int32) → Prop) (T : Int32 → Int32 → Int32) (z n : Nat) (f : Nat → Int32) (nn l1 la mi mj fi : Int) (R1 R2 R3 : Nat → Int32) : Prop :=
  rF1 U T z n f (fun a => (a : Int) < l1) (fun a b => 1 < nn ∧ ((a : Int) < la ∨ ((a : Int) = la ∧ (b : Int) < mi))) (fun a b c => 2 < nn ∧ ((a : Int) < la ∨ ((a : Int) = la ∧ ((b : Int) < mj ∨ ((b : Int) = mj ∧ (c : Int) < fi))))) R1 R2 R3
theorem rG1_0 {T : Int32 → Int32 → Int32} {z n : Nat} {f : Nat → Int32} {nn l0 : Int} {R1 R2 R3 : Nat → Int32} (hz : z ≤ 6) (h0 : l0 = 0) (h : ∀ j : Nat, (j : Int) < 258 → R1 j = -1) : rG1 U T z n f nn l0 l0 0 0 0 R1 R2 R3 := by
  subst h0
  refine ⟨fun a ha => ⟨fun s => ?_, fun _ => h a (by omega)⟩, fun a b ha hb => ⟨fun s => ?_, fun _ => h _ ?_⟩, fun a b c ha hb hc => ⟨fun s => ?_, fun _ => h _ ?_⟩, fun p _ hp => h p (by omega)⟩
  · exact absurd s (by show ¬ (a : Int) < 0; omega)
  · exact absurd s (by show ¬ (1 < nn ∧ ((a : Int) < 0 ∨ ((a : Int) = 0 ∧ (b : Int) < 0))); omega)
  · rcases rz7 hz with e | e | e | e | e | e | e <;> subst e <;> omega
  · exact absurd s (by show ¬ (2 < nn ∧ ((a : Int) < 0 ∨ ((a : Int) = 0 ∧ ((b : Int) < 0 ∨ ((b : Int) = 0 ∧ (c : Int) < 0))))); omega)
  · rcases rz7 hz with e | e | e | e | e | e | e <;> subst e <;> omega
theorem rG1_f1 {T : Int32 → Int32 → Int32} {z n a0 : Nat} {f : Nat → Int32} {nn la la' : Int} {R1 R2 R3 : Nat → Int32} (h : rG1 U T z n f nn la la 0 0 0 R1 R2 R3) (ea : (a0 : Int) = la) (e' : la' = la + 1) (hno : ∀ (c : Nat) (f2 : Nat → Int32), ¬ U a0 n f c f2) : rG1 U T z n f nn la' la' 0 0 0 R1 R2 R3 := by
  have k : ∀ (t : List Nat) (a : Nat), (a : Int) = la → ∀ c f', ¬ UNL U (a :: t) n f c f' := fun t a e => by
    have e2 : a = a0 := by omega
    rw [e2]; exact UNL_no hno
  refine rF1_ch h (fun a ha => ⟨fun s => ?_, fun s => ?_⟩) (fun a b ha hb => ⟨fun s => ?_, fun s => ?_⟩) (fun a b c ha hb hc => ⟨fun s => ?_, fun s => ?_⟩)
  · show (a : Int) < la'; have s : (a : Int) < la := s; omega
  · have s : (a : Int) < la' := s
    by_cases w : (a : Int) = la
    · exact Or.inr (k _ a w)
    · exact Or.inl (by show (a : Int) < la; omega)
  · have s : 1 < nn ∧ ((a : Int) < la ∨ ((a : Int) = la ∧ (b : Int) < 0)) := s
    show 1 < nn ∧ ((a : Int) < la' ∨ ((a : Int) = la' ∧ (b : Int) < 0)); omega
  · have s : 1 < nn ∧ ((a : Int) < la' ∨ ((a : Int) = la' ∧ (b : Int) < 0)) := s
    by_cases w : (a : Int) = la
    · exact Or.inr (k _ a w)
    · exact Or.inl (by show 1 < nn ∧ ((a : Int) < la ∨ ((a : Int) = la ∧ (b : Int) < 0)); omega)
  · have s : 2 < nn ∧ ((a : Int) < la ∨ ((a : Int) = la ∧ ((b : Int) < 0 ∨ ((b : Int) = 0 ∧ (c : Int) < 0)))) := s
    show 2 < nn ∧ ((a : Int) < la' ∨ ((a : Int) = la' ∧ ((b : Int) < 0 ∨ ((b : Int) = 0 ∧ (c : Int) < 0)))); omega
  · have s : 2 < nn ∧ ((a : Int) < la' ∨ ((a : Int) = la' ∧ ((b : Int) < 0 ∨ ((b : Int) = 0 ∧ (c : Int) < 0)))) := s
    by_cases w : (a : Int) = la
    · exact Or.inr (k _ a w)
    · exact Or.inl (by show 2 < nn ∧ ((a : Int) < la ∨ ((a : Int) = la ∧ ((b : Int) < 0 ∨ ((b : Int) = 0 ∧ (c : Int) < 0)))); omega)
theorem rF1_w {T : Int32 → Int32 → Int32} {z n p : Nat} {f : Nat → Int32} {S1 S1' : Nat → Prop} {S2 S2' : Nat → Nat → Prop} {S3 S3' : Nat → Nat → Nat → Prop} {x y u v w : Int32} {R1 R1' R2 R2' R3 R3' : Nat → Int32} (h : rF1 U T z n f S1 S2 S3 R1 R2 R3) (hw : rWP p x y u v w R1 R1' R2 R2' R3 R3')
    (c1 : ∀ a, a < z → (a ≠ p ∧ (S1' a ↔ S1 a)) ∨ (a = p ∧ S1' a ∧ rEN T a (UNL U [a] n f) a (-1) (-1) R1' R2' R3'))
    (c2 : ∀ a b, a < z → b < z → (z + b * z + a ≠ p ∧ (S2' a b ↔ S2 a b)) ∨ (z + b * z + a = p ∧ S2' a b ∧ rEN T (z + b * z + a) (UNL U [a, b] n f) b a (-1) R1' R2' R3'))
    (c3 : ∀ a b c, a < z → b < z → c < z → (z + z * z + (c * z + b) * z + a ≠ p ∧ (S3' a b c ↔ S3 a b c)) ∨ (z + z * z + (c * z + b) * z + a = p ∧ S3' a b c ∧ rEN T (z + z * z + (c * z + b) * z + a) (UNL U [a, b, c] n f) c b a R1' R2' R3'))
    (c4 : ∀ q, z + z * z + z * z * z ≤ q → q ≠ p) : rF1 U T z n f S1' S2' S3' R1' R2' R3' := by
  refine ⟨fun a ha => ?_, fun a b ha hb => ?_, fun a b c ha hb hc => ?_, fun q h1 h2 => by rw [(rWP_o hw (c4 q h1)).1]; exact h.2.2.2 q h1 h2⟩
  · rcases c1 a ha with ⟨q1, q2⟩ | ⟨q1, q2, q3⟩
    · exact ⟨fun s => rEN_o hw q1 ((h.1 a ha).1 (q2.mp s)), fun s => by rw [(rWP_o hw q1).1]; exact (h.1 a ha).2 (fun w => s (q2.mpr w))⟩
    · exact ⟨fun _ => q3, fun s => absurd q2 s⟩
  · rcases c2 a b ha hb with ⟨q1, q2⟩ | ⟨q1, q2, q3⟩
    · exact ⟨fun s => rEN_o hw q1 ((h.2.1 a b ha hb).1 (q2.mp s)), fun s => by rw [(rWP_o hw q1).1]; exact (h.2.1 a b ha hb).2 (fun w => s (q2.mpr w))⟩
    · exact ⟨fun _ => q3, fun s => absurd q2 s⟩
  · rcases c3 a b c ha hb hc with ⟨q1, q2⟩ | ⟨q1, q2, q3⟩
    · exact ⟨fun s => rEN_o hw q1 ((h.2.2.1 a b c ha hb hc).1 (q2.mp s)), fun s => by rw [(rWP_o hw q1).1]; exact (h.2.2.1 a b c ha hb hc).2 (fun w => s (q2.mpr w))⟩
    · exact ⟨fun _ => q3, fun s => absurd q2 s⟩
theorem rG1_w1 {T : Int32 → Int32 → Int32} {z n c a0 p : Nat} {f f' : Nat → Int32} {nn la la' : Int} {x y u v w : Int32} {R1 R1' R2 R2' R3 R3' : Nat → Int32} (h : rG1 U T z n f nn la la 0 0 0 R1 R2 R3) (hz : z ≤ 6) (ha0 : a0 < z) (ea : (a0 : Int) = la) (e' : la' = la + 1) (ep : p = a0) (hw : rWP p x y u v w R1 R1' R2 R2' R3 R3') (hM : U a0 n f c f') (hx : x.toInt = cT T c f') (hx0 : 0 ≤ x.toInt) (hy : y.toInt = c) (hu : u.toInt = a0) (hv : v.toInt = -1) (hw3 : w.toInt = -1) : rG1 U T z n f nn la' la 0 0 0 R1' R2' R3' := by
  subst ep
  refine rF1_w h hw (fun a ha => ?_) (fun a b ha hb => Or.inl ⟨fun e => rp_12 ha0 e.symm, Iff.rfl⟩) (fun a b c ha hb hc => Or.inl ⟨fun e => rp_13 ha0 e.symm, Iff.rfl⟩) (fun q hq => rp_1e ha0 hq)
  by_cases e : a = p
  · refine Or.inr ⟨e, ?_, ?_⟩
    · show (a : Int) < la'; omega
    · subst e
      exact rEN_s hw ⟨c, f', hM, rfl, fun _ _ => rfl⟩ hx hx0 hy hu hv hw3
  · refine Or.inl ⟨e, ?_⟩
    show (a : Int) < la' ↔ (a : Int) < la
    omega
theorem rG1_f2 {T : Int32 → Int32 → Int32} (hU : okU U) {z n m a0 b0 : Nat} {f g : Nat → Int32} {nn l1 la mi mi' : Int} {R1 R2 R3 : Nat → Int32} (h : rG1 U T z n f nn l1 la mi mi 0 R1 R2 R3) (hf : prg n 0 65535 f) (ea : (a0 : Int) = la) (eb : (b0 : Int) = mi) (e' : mi' = mi + 1) (h1 : U a0 n f m g) (hno : ∀ (c : Nat) (f2 : Nat → Int32), ¬ U b0 m g c f2) : rG1 U T z n f nn l1 la mi' mi' 0 R1 R2 R3 := by
  have k : ∀ (t : List Nat) (a b : Nat), (a : Int) = la → (b : Int) = mi → ∀ c f', ¬ UNL U (a :: b :: t) n f c f' := fun t a b e e2 c f' hh => by
    have q1 : a = a0 := by omega
    have q2 : b = b0 := by omega
    subst q1
    subst q2
    exact UNL_no hno _ _ ((UNL_cons hU hf h1).mp hh)
  refine rF1_ch h (fun a ha => ⟨fun s => s, fun s => Or.inl s⟩) (fun a b ha hb => ⟨fun s => ?_, fun s => ?_⟩) (fun a b c ha hb hc => ⟨fun s => ?_, fun s => ?_⟩)
  · have s : 1 < nn ∧ ((a : Int) < la ∨ ((a : Int) = la ∧ (b : Int) < mi)) := s
    show 1 < nn ∧ ((a : Int) < la ∨ ((a : Int) = la ∧ (b : Int) < mi')); omega
  · have s : 1 < nn ∧ ((a : Int) < la ∨ ((a : Int) = la ∧ (b : Int) < mi')) := s
    by_cases w : (a : Int) = la ∧ (b : Int) = mi
    · exact Or.inr (k _ a b w.1 w.2)
    · exact Or.inl (by show 1 < nn ∧ ((a : Int) < la ∨ ((a : Int) = la ∧ (b : Int) < mi)); omega)
  · have s : 2 < nn ∧ ((a : Int) < la ∨ ((a : Int) = la ∧ ((b : Int) < mi ∨ ((b : Int) = mi ∧ (c : Int) < 0)))) := s
    show 2 < nn ∧ ((a : Int) < la ∨ ((a : Int) = la ∧ ((b : Int) < mi' ∨ ((b : Int) = mi' ∧ (c : Int) < 0)))); omega
  · have s : 2 < nn ∧ ((a : Int) < la ∨ ((a : Int) = la ∧ ((b : Int) < mi' ∨ ((b : Int) = mi' ∧ (c : Int) < 0)))) := s
    by_cases w : (a : Int) = la ∧ (b : Int) = mi
    · exact Or.inr (k _ a b w.1 w.2)
    · exact Or.inl (by show 2 < nn ∧ ((a : Int) < la ∨ ((a : Int) = la ∧ ((b : Int) < mi ∨ ((b : Int) = mi ∧ (c : Int) < 0)))); omega)
theorem rG1_w2 {T : Int32 → Int32 → Int32} {z n m c a0 b0 p : Nat} {f g f' : Nat → Int32} {nn l1 la mi mi' : Int} {x y u v w : Int32} {R1 R1' R2 R2' R3 R3' : Nat → Int32} (h : rG1 U T z n f nn l1 la mi mi 0 R1 R2 R3) (hz : z ≤ 6) (hn : 1 < nn) (ha0 : a0 < z) (hb0 : b0 < z) (ea : (a0 : Int) = la) (eb : (b0 : Int) = mi) (e' : mi' = mi + 1) (ep : p = z + b0 * z + a0) (hw : rWP p x y u v w R1 R1' R2 R2' R3 R3') (h1 : U a0 n f m g) (hM : U b0 m g c f') (hx : x.toInt = cT T c f') (hx0 : 0 ≤ x.toInt) (hy : y.toInt = c) (hu : u.toInt = b0) (hv : v.toInt = a0) (hw3 : w.toInt = -1) : rG1 U T z n f nn l1 la mi' mi 0 R1' R2' R3' := by
  subst ep
  refine rF1_w h hw (fun a ha => Or.inl ⟨rp_12 ha, Iff.rfl⟩) (fun a b ha hb => ?_) (fun a b c ha hb hc => Or.inl ⟨fun e => rp_23 hz ha0 hb0 e.symm, Iff.rfl⟩) (fun q hq => rp_2e hz ha0 hb0 hq)
  by_cases e : z + b * z + a = z + b0 * z + a0
  · obtain ⟨q1, q2⟩ := rp_22 hz ha hb ha0 hb0 e
    refine Or.inr ⟨e, ?_, ?_⟩
    · show 1 < nn ∧ ((a : Int) < la ∨ ((a : Int) = la ∧ (b : Int) < mi')); omega
    · subst q1
      subst q2
      exact rEN_s hw ⟨m, g, h1, c, f', hM, rfl, fun _ _ => rfl⟩ hx hx0 hy hu hv hw3
  · refine Or.inl ⟨e, ?_⟩
    show (1 < nn ∧ ((a : Int) < la ∨ ((a : Int) = la ∧ (b : Int) < mi'))) ↔ (1 < nn ∧ ((a : Int) < la ∨ ((a : Int) = la ∧ (b : Int) < mi)))
    have : ¬ (a = a0 ∧ b = b0) := fun ⟨q1, q2⟩ => e (by rw [q1, q2])
    omega
theorem rG1_f3 {T : Int32 → Int32 → Int32} (hU : okU U) {z n m m2 a0 b0 c0 : Nat} {f g g2 : Nat → Int32} {nn l1 la mi mj fi fi' : Int} {R1 R2 R3 : Nat → Int32} (h : rG1 U T z n f nn l1 la mi mj fi R1 R2 R3) (hf : prg n 0 65535 f) (ea : (a0 : Int) = la) (eb : (b0 : Int) = mj) (ec : (c0 : Int) = fi) (e' : fi' = fi + 1) (h1 : U a0 n f m g) (h2 : U b0 m g m2 g2) (hno : ∀ (c : Nat) (f2 : Nat → Int32), ¬ U c0 m2 g2 c f2) : rG1 U T z n f nn l1 la mi mj fi' R1 R2 R3 := by
  have k : ∀ (a b c : Nat), (a : Int) = la → (b : Int) = mj → (c : Int) = fi → ∀ c2 f', ¬ UNL U [a, b, c] n f c2 f' := fun a b c e e2 e3 c2 f' hh => by
    have q1 : a = a0 := by omega
    have q2 : b = b0 := by omega
    have q3 : c = c0 := by omega
    subst q1
    subst q2
    subst q3
    exact UNL_no hno _ _ ((UNL_cons hU (hU.2.2.1 _ _ _ _ _ hf h1).2 h2).mp ((UNL_cons hU hf h1).mp hh))
  refine rF1_ch h (fun a ha => ⟨fun s => s, fun s => Or.inl s⟩) (fun a b ha hb => ⟨fun s => s, fun s => Or.inl s⟩) (fun a b c ha hb hc => ⟨fun s => ?_, fun s => ?_⟩)
  · have s : 2 < nn ∧ ((a : Int) < la ∨ ((a : Int) = la ∧ ((b : Int) < mj ∨ ((b : Int) = mj ∧ (c : Int) < fi)))) := s
    show 2 < nn ∧ ((a : Int) < la ∨ ((a : Int) = la ∧ ((b : Int) < mj ∨ ((b : Int) = mj ∧ (c : Int) < fi')))); omega
  · have s : 2 < nn ∧ ((a : Int) < la ∨ ((a : Int) = la ∧ ((b : Int) < mj ∨ ((b : Int) = mj ∧ (c : Int) < fi')))) := s
    by_cases w : (a : Int) = la ∧ (b : Int) = mj ∧ (c : Int) = fi
    · exact Or.inr (k a b c w.1 w.2.1 w.2.2)
    · exact Or.inl (by show 2 < nn ∧ ((a : Int) < la ∨ ((a : Int) = la ∧ ((b : Int) < mj ∨ ((b : Int) = mj ∧ (c : Int) < fi)))); omega)
theorem rG1_w3 {T : Int32 → Int32 → Int32} {z n m m2 c a0 b0 c0 p : Nat} {f g g2 f' : Nat → Int32} {nn l1 la mi mj fi fi' : Int} {x y u v w : Int32} {R1 R1' R2 R2' R3 R3' : Nat → Int32} (h : rG1 U T z n f nn l1 la mi mj fi R1 R2 R3) (hz : z ≤ 6) (hn : 2 < nn) (ha0 : a0 < z) (hb0 : b0 < z) (hc0 : c0 < z) (ea : (a0 : Int) = la) (eb : (b0 : Int) = mj) (ec : (c0 : Int) = fi) (e' : fi' = fi + 1) (ep : p = z + z * z + (c0 * z + b0) * z + a0) (hw : rWP p x y u v w R1 R1' R2 R2' R3 R3') (h1 : U a0 n f m g) (h2 : U b0 m g m2 g2) (hM : U c0 m2 g2 c f') (hx : x.toInt = cT T c f') (hx0 : 0 ≤ x.toInt) (hy : y.toInt = c) (hu : u.toInt = c0) (hv : v.toInt = b0) (hw3 : w.toInt = a0) : rG1 U T z n f nn l1 la mi mj fi' R1' R2' R3' := by
  subst ep
  refine rF1_w h hw (fun a ha => Or.inl ⟨rp_13 ha, Iff.rfl⟩) (fun a b ha hb => Or.inl ⟨rp_23 hz ha hb, Iff.rfl⟩) (fun a b c' ha hb hc => ?_) (fun q hq => rp_3e hz ha0 hb0 hc0 hq)
  by_cases e : z + z * z + (c' * z + b) * z + a = z + z * z + (c0 * z + b0) * z + a0
  · obtain ⟨q1, q2, q3⟩ := rp_33 hz ha hb hc ha0 hb0 hc0 e
    refine Or.inr ⟨e, ?_, ?_⟩
    · show 2 < nn ∧ ((a : Int) < la ∨ ((a : Int) = la ∧ ((b : Int) < mj ∨ ((b : Int) = mj ∧ (c' : Int) < fi')))); omega
    · subst q1
      subst q2
      subst q3
      exact rEN_s hw ⟨m, g, h1, m2, g2, h2, c, f', hM, rfl, fun _ _ => rfl⟩ hx hx0 hy hu hv hw3
  · refine Or.inl ⟨e, ?_⟩
    show (2 < nn ∧ ((a : Int) < la ∨ ((a : Int) = la ∧ ((b : Int) < mj ∨ ((b : Int) = mj ∧ (c' : Int) < fi'))))) ↔ (2 < nn ∧ ((a : Int) < la ∨ ((a : Int) = la ∧ ((b : Int) < mj ∨ ((b : Int) = mj ∧ (c' : Int) < fi)))))
    have : ¬ (a = a0 ∧ b = b0 ∧ c' = c0) := fun ⟨q1, q2, q3⟩ => e (by rw [q1, q2, q3])
    omega
theorem rG1_e3 {T : Int32 → Int32 → Int32} {z n : Nat} {f : Nat → Int32} {nn l1 la mi mj fi : Int} {R1 R2 R3 : Nat → Int32} (h : rG1 U T z n f nn l1 la mi mj fi R1 R2 R3) (em : mi = mj + 1) (hz : (z : Int) ≤ fi ∨ nn ≤ 2) : rG1 U T z n f nn l1 la mi mi 0 R1 R2 R3 := by
  refine rF1_ch h (fun a ha => ⟨fun s => s, fun s => Or.inl s⟩) (fun a b ha hb => ⟨fun s => s, fun s => Or.inl s⟩) (fun a b c ha hb hc => ⟨fun s => ?_, fun s => Or.inl ?_⟩)
  · have s : 2 < nn ∧ ((a : Int) < la ∨ ((a : Int) = la ∧ ((b : Int) < mj ∨ ((b : Int) = mj ∧ (c : Int) < fi)))) := s
    show 2 < nn ∧ ((a : Int) < la ∨ ((a : Int) = la ∧ ((b : Int) < mi ∨ ((b : Int) = mi ∧ (c : Int) < 0)))); omega
  · have s : 2 < nn ∧ ((a : Int) < la ∨ ((a : Int) = la ∧ ((b : Int) < mi ∨ ((b : Int) = mi ∧ (c : Int) < 0)))) := s
    show 2 < nn ∧ ((a : Int) < la ∨ ((a : Int) = la ∧ ((b : Int) < mj ∨ ((b : Int) = mj ∧ (c : Int) < fi)))); omega
theorem rG1_e2 {T : Int32 → Int32 → Int32} {z n : Nat} {f : Nat → Int32} {nn l1 la mi : Int} {R1 R2 R3 : Nat → Int32} (h : rG1 U T z n f nn l1 la mi mi 0 R1 R2 R3) (el : l1 = la + 1) (hz : (z : Int) ≤ mi ∨ nn ≤ 1) : rG1 U T z n f nn l1 l1 0 0 0 R1 R2 R3 := by
  refine rF1_ch h (fun a ha => ⟨fun s => s, fun s => Or.inl s⟩) (fun a b ha hb => ⟨fun s => ?_, fun s => Or.inl ?_⟩) (fun a b c ha hb hc => ⟨fun s => ?_, fun s => Or.inl ?_⟩)
  · have s : 1 < nn ∧ ((a : Int) < la ∨ ((a : Int) = la ∧ (b : Int) < mi)) := s
    show 1 < nn ∧ ((a : Int) < l1 ∨ ((a : Int) = l1 ∧ (b : Int) < 0)); omega
  · have s : 1 < nn ∧ ((a : Int) < l1 ∨ ((a : Int) = l1 ∧ (b : Int) < 0)) := s
    show 1 < nn ∧ ((a : Int) < la ∨ ((a : Int) = la ∧ (b : Int) < mi)); omega
  · have s : 2 < nn ∧ ((a : Int) < la ∨ ((a : Int) = la ∧ ((b : Int) < mi ∨ ((b : Int) = mi ∧ (c : Int) < 0)))) := s
    show 2 < nn ∧ ((a : Int) < l1 ∨ ((a : Int) = l1 ∧ ((b : Int) < 0 ∨ ((b : Int) = 0 ∧ (c : Int) < 0)))); omega
  · have s : 2 < nn ∧ ((a : Int) < l1 ∨ ((a : Int) = l1 ∧ ((b : Int) < 0 ∨ ((b : Int) = 0 ∧ (c : Int) < 0)))) := s
    show 2 < nn ∧ ((a : Int) < la ∨ ((a : Int) = la ∧ ((b : Int) < mi ∨ ((b : Int) = mi ∧ (c : Int) < 0)))); omega
/-- the harm that stands at the place j of a row -/
def nmz (z k code j : Nat) : Int := if k ≤ j then -1 else if j + 1 = k then ((code % z : Nat) : Int) else if j + 2 = k then ((code / z % z : Nat) : Int) else ((code / z / z % z : Nat) : Int)
/-- the book of all rows of at most nn harms that make the text -/
def rGE (U : Nat → Nat → (Nat → Int32) → Nat → (Nat → Int32) → Prop) (T : Int32 → Int32 → Int32) (z n : Nat) (f : Nat → Int32) (nn : Int) (R1 R2 R3 : Nat → Int32) : Prop :=
  (∀ k code : Nat, 1 ≤ k → k ≤ 3 → code < rpz z k → ((k : Int) ≤ nn → rEN T (roff z k + code) (UNL U (digs z k code) n f) (nmz z k code 0) (nmz z k code 1) (nmz z k code 2) R1 R2 R3) ∧ (nn < k → R1 (roff z k + code) = -1)) ∧ ∀ p : Nat, roff z 4 ≤ p → p < 258 → R1 p = -1
theorem rG1_GE {T : Int32 → Int32 → Int32} {z n : Nat} {f : Nat → Int32} {nn la : Int} {R1 R2 R3 : Nat → Int32} (h : rG1 U T z n f nn la la 0 0 0 R1 R2 R3) (hz : z ≤ 6) (hn : 1 ≤ nn) (hl : la = z) : rGE U T z n f nn R1 R2 R3 := by
  refine ⟨fun k code k1 k3' hc => ?_, h.2.2.2⟩
  rcases rk3 k1 k3' with e | e | e <;> subst e
  · have hc : code < z := hc
    obtain ⟨q1, q2⟩ := h.1 code hc
    have e1 : code % z = code := Nat.mod_eq_of_lt hc
    have e2 : roff z 1 + code = code := Nat.zero_add _
    have e3 : digs z 1 code = [code] := by show [code % z] = _; rw [e1]
    have e4 : nmz z 1 code 0 = code := by show ((code % z : Nat) : Int) = _; rw [e1]
    rw [e2, e3, e4]
    exact ⟨fun _ => q1 (by show (code : Int) < la; omega), fun w => by omega⟩
  · have hc : code < z * z := hc
    have zp : 0 < z := Nat.pos_of_ne_zero (fun e => by subst e; omega)
    have b1 : code / z < z := Nat.div_lt_of_lt_mul hc
    have a1 : code % z < z := Nat.mod_lt _ zp
    obtain ⟨q1, q2⟩ := h.2.1 (code % z) (code / z) a1 b1
    have e0 : code / z * z + code % z = code := by rw [Nat.mul_comm]; exact Nat.div_add_mod _ _
    have e1 : z + code / z * z + code % z = roff z 2 + code := by show _ = z + code; omega
    have e2 : code / z % z = code / z := Nat.mod_eq_of_lt b1
    have e3 : digs z 2 code = [code % z, code / z] := by show [code % z, code / z % z] = _; rw [e2]
    have e4 : nmz z 2 code 0 = ((code / z : Nat) : Int) := by show ((code / z % z : Nat) : Int) = _; rw [e2]
    rw [e1] at q1 q2
    rw [e3, e4]
    refine ⟨fun w => q1 ?_, fun w => q2 ?_⟩
    · show 1 < nn ∧ (((code % z : Nat) : Int) < la ∨ (((code % z : Nat) : Int) = la ∧ ((code / z : Nat) : Int) < 0))
      refine ⟨by omega, Or.inl ?_⟩
      rw [hl]; exact Int.ofNat_lt.mpr a1
    · show ¬ (1 < nn ∧ (((code % z : Nat) : Int) < la ∨ (((code % z : Nat) : Int) = la ∧ ((code / z : Nat) : Int) < 0)))
      exact fun w2 => absurd w2.1 (by omega)
  · have hc : code < z * z * z := hc
    have zp : 0 < z := Nat.pos_of_ne_zero (fun e => by subst e; omega)
    have b0 : code / z < z * z := Nat.div_lt_of_lt_mul (by rw [← Nat.mul_assoc]; exact hc)
    have c1 : code / z / z < z := Nat.div_lt_of_lt_mul b0
    have b1 : code / z % z < z := Nat.mod_lt _ zp
    have a1 : code % z < z := Nat.mod_lt _ zp
    obtain ⟨q1, q2⟩ := h.2.2.1 (code % z) (code / z % z) (code / z / z) a1 b1 c1
    have e00 : code / z / z * z + code / z % z = code / z := by rw [Nat.mul_comm]; exact Nat.div_add_mod _ _
    have e0 : code / z * z + code % z = code := by rw [Nat.mul_comm]; exact Nat.div_add_mod _ _
    have e1 : z + z * z + (code / z / z * z + code / z % z) * z + code % z = roff z 3 + code := by rw [e00]; show _ = z + z * z + code; omega
    have e2 : code / z / z % z = code / z / z := Nat.mod_eq_of_lt c1
    have e3 : digs z 3 code = [code % z, code / z % z, code / z / z] := by show [code % z, code / z % z, code / z / z % z] = _; rw [e2]
    have e4 : nmz z 3 code 0 = ((code / z / z : Nat) : Int) := by show ((code / z / z % z : Nat) : Int) = _; rw [e2]
    rw [e1] at q1 q2
    rw [e3, e4]
    refine ⟨fun w => q1 ?_, fun w => q2 ?_⟩
    · show 2 < nn ∧ (((code % z : Nat) : Int) < la ∨ (((code % z : Nat) : Int) = la ∧ (((code / z % z : Nat) : Int) < 0 ∨ (((code / z % z : Nat) : Int) = 0 ∧ ((code / z / z : Nat) : Int) < 0))))
      refine ⟨by omega, Or.inl ?_⟩
      rw [hl]; exact Int.ofNat_lt.mpr a1
    · show ¬ (2 < nn ∧ (((code % z : Nat) : Int) < la ∨ (((code % z : Nat) : Int) = la ∧ (((code / z % z : Nat) : Int) < 0 ∨ (((code / z % z : Nat) : Int) = 0 ∧ ((code / z / z : Nat) : Int) < 0)))))
      exact fun w2 => absurd w2.1 (by omega)
theorem cT_u (hU : okU U) {T : Int32 → Int32 → Int32} {l : List Nat} {n c c' : Nat} {f f1 f2 : Nat → Int32} (hn : n ≤ 300) (hf : prg n 0 65535 f) (h : UNL U l n f c f1) (h' : UNL U l n f c' f2) : cT T c f1 = cT T c' f2 := by
  obtain ⟨q1, q2⟩ := UNL_u hU l _ _ _ _ _ _ hf h h'
  exact cT_congr (by rw [q1]) (by omega) (fun _ _ _ _ _ _ => rfl) (UNL_r hU l _ _ _ _ hn hf h).2 (fun j hj => q2 j (by omega))
/-- a row that makes the text stands in the book -/
theorem ge_y (hU : okU U) {T : Int32 → Int32 → Int32} {z n k code c : Nat} {f f' : Nat → Int32} {nn : Int} {R1 R2 R3 : Nat → Int32} (h : rGE U T z n f nn R1 R2 R3) (hn : n ≤ 300) (hf : prg n 0 65535 f) (k1 : 1 ≤ k) (k2 : k ≤ 3) (k4 : (k : Int) ≤ nn) (hc : code < rpz z k) (hM : UNL U (digs z k code) n f c f') : (R1 (roff z k + code)).toInt = cT T c f' ∧ ¬ R1 (roff z k + code) = -1 ∧ (R2 (roff z k + code)).toInt = c ∧ (R3 (3 * (roff z k + code))).toInt = nmz z k code 0 ∧ (R3 (3 * (roff z k + code) + 1)).toInt = nmz z k code 1 ∧ (R3 (3 * (roff z k + code) + 2)).toInt = nmz z k code 2 ∧ 0 ≤ (R1 (roff z k + code)).toInt := by
  rcases (h.1 k code k1 k2 hc).1 k4 with ⟨c', f2, a1, a2, a3, a4, a5, a6, a7⟩ | ⟨a1, _⟩
  · refine ⟨by rw [a2]; exact cT_u hU hn hf a1 hM, v_nn a7, by rw [a3, (UNL_u hU _ _ _ _ _ _ _ hf a1 hM).1], a4, a5, a6, a7⟩
  · exact absurd hM (a1 _ _)
theorem ge_n {T : Int32 → Int32 → Int32} {z n k code : Nat} {f : Nat → Int32} {nn : Int} {R1 R2 R3 : Nat → Int32} (h : rGE U T z n f nn R1 R2 R3) (k1 : 1 ≤ k) (k2 : k ≤ 3) (hc : code < rpz z k) (hM : ∀ c f', ¬ UNL U (digs z k code) n f c f') : R1 (roff z k + code) = -1 := by
  by_cases k4 : (k : Int) ≤ nn
  · rcases (h.1 k code k1 k2 hc).1 k4 with ⟨c', f2, a1, _⟩ | ⟨_, a1⟩
    · exact absurd a1 (hM _ _)
    · exact a1
  · exact (h.1 k code k1 k2 hc).2 (by omega)
theorem ge_code {T : Int32 → Int32 → Int32} {z n p : Nat} {f : Nat → Int32} {nn : Int} {R1 R2 R3 : Nat → Int32} (h : rGE U T z n f nn R1 R2 R3) (hp : p < 258) (hR : ¬ R1 p = -1) : ∃ k code : Nat, 1 ≤ k ∧ k ≤ 3 ∧ (k : Int) ≤ nn ∧ code < rpz z k ∧ p = roff z k + code ∧ ∃ c f', UNL U (digs z k code) n f c f' := by
  have p4 : p < roff z 4 := by
    by_cases w : roff z 4 ≤ p
    · exact absurd (h.2 p w hp) hR
    · omega
  have s1 := roff_s (z := z) (k := 1) (by omega) (by omega)
  have s2 := roff_s (z := z) (k := 2) (by omega) (by omega)
  have s3 := roff_s (z := z) (k := 3) (by omega) (by omega)
  have o1 : roff z 1 = 0 := rfl
  have o2 : roff z (1 + 1) = roff z 2 := rfl
  have o3 : roff z (2 + 1) = roff z 3 := rfl
  have o4 : roff z (3 + 1) = roff z 4 := rfl
  have ex : ∃ k : Nat, 1 ≤ k ∧ k ≤ 3 ∧ roff z k ≤ p ∧ p < roff z k + rpz z k := by
    by_cases w2 : p < roff z 2
    · exact ⟨1, by omega, by omega, by omega, by omega⟩
    · by_cases w3 : p < roff z 3
      · exact ⟨2, by omega, by omega, by omega, by omega⟩
      · exact ⟨3, by omega, by omega, by omega, by omega⟩
  obtain ⟨k, k1, k2, k5, k6⟩ := ex
  have e : roff z k + (p - roff z k) = p := by omega
  have q := h.1 k (p - roff z k) k1 k2 (by omega)
  rw [e] at q
  by_cases k4 : (k : Int) ≤ nn
  · rcases q.1 k4 with ⟨c', f2, a1, _⟩ | ⟨_, a1⟩
    · exact ⟨k, p - roff z k, k1, k2, k4, by omega, e.symm, c', f2, a1⟩
    · exact absurd a1 hR
  · exact absurd (q.2 (by omega)) hR
/-- how many rows stand ahead of a place -/
def nF (R : Nat → Int32) : Nat → Nat
  | 0 => 0
  | p + 1 => nF R p + (if R p = -1 then 0 else 1)
theorem nF_y {R : Nat → Int32} {p : Nat} (h : ¬ R p = -1) : nF R (p + 1) = nF R p + 1 := by rw [nF, if_neg h]
theorem nF_n {R : Nat → Int32} {p : Nat} (h : R p = -1) : nF R (p + 1) = nF R p := by rw [nF, if_pos h, Nat.add_zero]
theorem nF_m (R : Nat → Int32) {p : Nat} : ∀ q, p ≤ q → nF R p ≤ nF R q
  | 0, h => by have e : p = 0 := by omega
               rw [e]; exact Nat.le_refl _
  | q + 1, h => by
    by_cases e : p = q + 1
    · rw [e]; exact Nat.le_refl _
    · have a := nF_m R (p := p) q (by omega)
      by_cases w : R q = -1
      · rw [nF_n w]; exact a
      · rw [nF_y w]; omega
theorem nF_l (R : Nat → Int32) : ∀ p, nF R p ≤ p
  | 0 => Nat.le_refl _
  | p + 1 => by
    have a := nF_l R p
    by_cases w : R p = -1
    · rw [nF_n w]; omega
    · rw [nF_y w]; omega
theorem nF_z {R : Nat → Int32} {p : Nat} : ∀ q, p ≤ q → (∀ j, p ≤ j → j < q → R j = -1) → nF R q = nF R p
  | 0, h, _ => by have e : p = 0 := by omega
                  rw [e]
  | q + 1, h, hz => by
    by_cases e : p = q + 1
    · rw [e]
    · rw [nF_n (hz q (by omega) (by omega))]
      exact nF_z q (by omega) (fun j h1 h2 => hz j h1 (by omega))
/-- the first of the cheapest -/
def mnP (R : Nat → Int32) (m p : Nat) : Prop := p < m ∧ ¬ R p = -1 ∧ (∀ q, q < m → ¬ R q = -1 → (R p).toInt ≤ (R q).toInt) ∧ ∀ q, q < p → ¬ R q = -1 → (R p).toInt < (R q).toInt
theorem mnP_u {R : Nat → Int32} {m p p' : Nat} (h : mnP R m p) (h' : mnP R m p') : p = p' := by
  obtain ⟨a1, a2, a3, a4⟩ := h
  obtain ⟨b1, b2, b3, b4⟩ := h'
  rcases Nat.lt_trichotomy p p' with z | z | z
  · have q1 := b4 p z a2
    have q2 := a3 p' b1 b2
    omega
  · exact z
  · have q1 := a4 p' z b2
    have q2 := b3 p a1 a2
    omega
theorem mnP_keep {R : Nat → Int32} {m p : Nat} (h : mnP R m p) (hn : R m = -1 ∨ (R p).toInt ≤ (R m).toInt) : mnP R (m + 1) p := by
  obtain ⟨a1, a2, a3, a4⟩ := h
  refine ⟨by omega, a2, fun q hq hr => ?_, a4⟩
  by_cases e : q = m
  · subst e
    exact hn.elim (fun w => absurd w hr) id
  · exact a3 q (by omega) hr
theorem mnP_new {R : Nat → Int32} {m : Nat} (hm : ¬ R m = -1) (h : (∀ q, q < m → R q = -1) ∨ ∃ p, mnP R m p ∧ (R m).toInt < (R p).toInt) : mnP R (m + 1) m := by
  refine ⟨by omega, hm, fun q hq hr => ?_, fun q hq hr => ?_⟩
  · by_cases e : q = m
    · rw [e]; exact Int.le_refl _
    · rcases h with h | ⟨p, h1, h2⟩
      · exact absurd (h q (by omega)) hr
      · have := h1.2.2.1 q (by omega) hr
        omega
  · rcases h with h | ⟨p, h1, h2⟩
    · exact absurd (h q hq) hr
    · have := h1.2.2.1 q hq hr
      omega
/-- cheapest(): while it goes -/
def CHq (R : Nat → Int32) (m be : Int) : Prop := (be = -1 ∧ ∀ q : Nat, (q : Int) < m → R q = -1) ∨ ∃ p : Nat, be = p ∧ mnP R m.toNat p
theorem CHq_0 {R : Nat → Int32} {m be : Int} (h : be = -1) (hm : m ≤ 0) : CHq R m be := Or.inl ⟨h, fun q hq => by omega⟩
theorem CHq_no {R : Nat → Int32} {m m' be : Int32} {x : Int32} (h : CHq R m.toInt be.toInt) (ex : x = R m.toNatClampNeg) (hx : x = -1) (h0 : 0 ≤ m.toInt) (hm : m'.toInt = m.toInt + 1) : CHq R m'.toInt be.toInt := by
  have c := v_clamp h0
  have e1 : m.toInt.toNat = m.toNatClampNeg := by omega
  have e2 : m'.toInt.toNat = m.toNatClampNeg + 1 := by omega
  rcases h with ⟨a1, a2⟩ | ⟨p, a1, a2⟩
  · refine Or.inl ⟨a1, fun q hq => ?_⟩
    by_cases e : q = m.toNatClampNeg
    · rw [e, ← ex]; exact hx
    · exact a2 q (by omega)
  · rw [e1] at a2
    refine Or.inr ⟨p, a1, ?_⟩
    rw [e2]
    exact mnP_keep a2 (Or.inl (by rw [← ex]; exact hx))
theorem CHq_keep {R : Nat → Int32} {m m' be x y : Int32} (h : CHq R m.toInt be.toInt) (ex : x = R m.toNatClampNeg) (ey : y = R be.toNatClampNeg) (hb : ¬ be.toInt = -1) (hxy : y.toInt ≤ x.toInt) (h0 : 0 ≤ m.toInt) (hm : m'.toInt = m.toInt + 1) : CHq R m'.toInt be.toInt := by
  have c := v_clamp h0
  have e1 : m.toInt.toNat = m.toNatClampNeg := by omega
  have e2 : m'.toInt.toNat = m.toNatClampNeg + 1 := by omega
  rcases h with ⟨a1, a2⟩ | ⟨p, a1, a2⟩
  · exact absurd a1 hb
  · rw [e1] at a2
    have e3 : be.toNatClampNeg = p := ix_eq (by omega)
    refine Or.inr ⟨p, a1, ?_⟩
    rw [e2]
    exact mnP_keep a2 (Or.inr (by rw [← ex, ← e3, ← ey]; exact hxy))
theorem CHq_new {R : Nat → Int32} {m m' be x : Int32} (h : CHq R m.toInt be.toInt) (ex : x = R m.toNatClampNeg) (hx : ¬ x = -1) (hc : be.toInt = -1 ∨ ∃ y, y = R be.toNatClampNeg ∧ x.toInt < y.toInt) (h0 : 0 ≤ m.toInt) (hm : m'.toInt = m.toInt + 1) : CHq R m'.toInt m.toInt := by
  have c := v_clamp h0
  have e1 : m.toInt.toNat = m.toNatClampNeg := by omega
  have e2 : m'.toInt.toNat = m.toNatClampNeg + 1 := by omega
  refine Or.inr ⟨m.toNatClampNeg, by omega, ?_⟩
  rw [e2]
  refine mnP_new (by rw [← ex]; exact hx) ?_
  rcases h with ⟨a1, a2⟩ | ⟨p, a1, a2⟩
  · exact Or.inl (fun q hq => a2 q (by omega))
  · rw [e1] at a2
    rcases hc with hc | ⟨y, y1, y2⟩
    · omega
    · have e3 : be.toNatClampNeg = p := ix_eq (by omega)
      exact Or.inr ⟨p, a2, by rw [← ex, ← e3, ← y1]; exact y2⟩
/-- the harms of a row as they stand in the book, the last one first -/
def flk (R : Nat → Int32) (p : Nat) : Nat → List Nat
  | 0 => []
  | j + 1 => if R (3 * p + j) = -1 then flk R p j else (R (3 * p + j)).toNatClampNeg :: flk R p j
theorem flk_digs {z k code p : Nat} {R : Nat → Int32} (k1 : 1 ≤ k) (k2 : k ≤ 3) (n0 : (R (3 * p)).toInt = nmz z k code 0) (n1 : (R (3 * p + 1)).toInt = nmz z k code 1) (n2 : (R (3 * p + 2)).toInt = nmz z k code 2) : flk R p 3 = digs z k code := by
  have m1 : (-1 : Int32).toInt = -1 := rfl
  have st : ∀ (j d : Nat), (R (3 * p + j)).toInt = (d : Int) → flk R p (j + 1) = d :: flk R p j := fun j d e => by
    rw [flk, if_neg (v_nn (by omega)), ix_eq (x := R (3 * p + j)) (N := d) e]
  have sk : ∀ (j : Nat), (R (3 * p + j)).toInt = -1 → flk R p (j + 1) = flk R p j := fun j e => by
    rw [flk, if_pos (v_inj (by rw [m1]; exact e))]
  have n0 : (R (3 * p + 0)).toInt = nmz z k code 0 := n0
  rcases rk3 k1 k2 with e | e | e <;> subst e
  · rw [sk 2 n2, sk 1 n1, st 0 (code % z) n0]; rfl
  · rw [sk 2 n2, st 1 (code % z) n1, st 0 (code / z % z) n0]; rfl
  · rw [st 2 (code % z) n2, st 1 (code / z % z) n1, st 0 (code / z / z % z) n0]; rfl
/-- mend() -/
def mdP (U : Nat → Nat → (Nat → Int32) → Nat → (Nat → Int32) → Prop) (T : Int32 → Int32 → Int32) (z n : Nat) (f : Nat → Int32) (nn gain : Int) (R1 : Nat → Int32) (c : Nat) (fm : Nat → Int32) (v : Int) : Prop :=
  (1 ≤ nn ∧ nn ≤ 3 ∧ 1 ≤ gain ∧ gain ≤ 100000) ∧ ∃ k code : Nat, 1 ≤ k ∧ k ≤ 3 ∧ (k : Int) ≤ nn ∧ code < rpz z k ∧ mnP R1 258 (roff z k + code) ∧ gain ≤ cT T n f - (R1 (roff z k + code)).toInt ∧ UNL U (digs z k code) n f c fm ∧ v = nF R1 (roff z k + code)
theorem off_inj {z k k' c c' : Nat} (k1 : 1 ≤ k) (k2 : k ≤ 3) (k1' : 1 ≤ k') (k2' : k' ≤ 3) (hc : c < rpz z k) (hc' : c' < rpz z k') (h : roff z k + c = roff z k' + c') : k = k' ∧ c = c' := by
  have s := roff_s (z := z) k1 k2
  have s' := roff_s (z := z) k1' k2'
  rcases Nat.lt_trichotomy k k' with w | w | w
  · have := roff_m (z := z) (k := k + 1) (k' := k') (by omega) (by omega) (by omega)
    omega
  · subst w
    exact ⟨rfl, by omega⟩
  · have := roff_m (z := z) (k := k' + 1) (k' := k) (by omega) (by omega) (by omega)
    omega
theorem md_ok (hU : okU U) {T : Int32 → Int32 → Int32} {z n : Nat} {f : Nat → Int32} {nn gain : Int} {R1 : Nat → Int32} (hn : n ≤ 300) (hf : prg n 0 65535 f) (hlz : ∀ (h n c : Nat) (f f' : Nat → Int32), h < z → prg n 0 65535 f → U h n f c f' → ∀ i, i < c → isLz (f' i)) : okQ (mdP U T z n f nn gain R1) := by
  have ll : ∀ (l : List Nat) (n c : Nat) (f f' : Nat → Int32), (∀ h, h ∈ l → h < z) → ¬ l = [] → prg n 0 65535 f → UNL U l n f c f' → ∀ i, i < c → isLz (f' i) := by
    intro l
    induction l with
    | nil => exact fun _ _ _ _ _ h => absurd rfl h
    | cons h t ih =>
      rintro n c f f' hm - hf ⟨m, g, a, b⟩ i hi
      by_cases e : t = []
      · subst e
        rw [b.2 i hi]
        exact hlz h _ _ _ _ (hm h List.mem_cons_self) hf a i (by have := b.1; omega)
      · exact ih _ _ _ _ (fun h' hh => hm h' (List.mem_cons_of_mem _ hh)) e (hU.2.2.1 _ _ _ _ _ hf a).2 b i hi
  rintro c fm v ⟨_, k, code, k1, k2, k4, hc, hm, hg, hM, hv⟩
  have zp : 1 ≤ z := by
    rcases Nat.eq_zero_or_pos z with w | w
    · subst w
      rcases rk3 k1 k2 with e | e | e <;> subst e <;> exact absurd hc (Nat.not_lt_zero _)
    · exact w
  refine ⟨⟨(UNL_r hU _ _ _ _ _ hn hf hM).1, ?_⟩, ?_⟩
  · refine ll _ _ _ _ _ (fun h hh => digs_lt zp _ _ _ hh) ?_ hf hM
    rcases rk3 k1 k2 with e | e | e <;> subst e <;> exact List.cons_ne_nil _ _
  · rintro c' fm' v' ⟨_, k', code', k1', k2', k4', hc', hm', hg', hM', hv'⟩
    obtain ⟨e1, e2⟩ := off_inj k1 k2 k1' k2' hc hc' (mnP_u hm hm')
    subst e1
    subst e2
    obtain ⟨q1, q2⟩ := UNL_u hU _ _ _ _ _ _ _ hf hM hM'
    exact ⟨q1, by rw [hv, hv'], q2⟩
/-- both sides have one book -/
theorem ge_iff (hU : okU U) {T T' : Int32 → Int32 → Int32} {z n : Nat} {f g : Nat → Int32} {nn : Int} {R1 R2 R3 : Nat → Int32} (hV : okU V) (hn : n ≤ 300) (hf : prg n 0 65535 f) (hfg : ∀ i, i < n → f i = g i) (he : ∀ h, h < z → ∀ (n c : Nat) (f f' : Nat → Int32), prg n 0 65535 f → (U h n f c f' ↔ V h n f c f')) (hT : ∀ x y : Int32, 0 ≤ x.toInt → x.toInt ≤ 65535 → 0 ≤ y.toInt → y.toInt ≤ 65535 → T x y = T' x y) (h : rGE U T z n f nn R1 R2 R3) : rGE V T' z n g nn R1 R2 R3 := by
  refine ⟨fun k code k1 k2 hc => ⟨fun k4 => ?_, (h.1 k code k1 k2 hc).2⟩, h.2⟩
  have zp : 1 ≤ z := by
    rcases Nat.eq_zero_or_pos z with w | w
    · subst w
      rcases rk3 k1 k2 with e | e | e <;> subst e <;> exact absurd hc (Nat.not_lt_zero _)
    · exact w
  have iff9 : ∀ c f', UNL U (digs z k code) n f c f' ↔ UNL V (digs z k code) n g c f' := fun c f' =>
    (UNL_iff hU _ _ _ _ _ (fun h hh => he h (digs_lt zp _ _ _ hh)) hf).trans ⟨UNL_g hV _ _ _ _ _ _ hfg, UNL_g hV _ _ _ _ _ _ (fun i hi => (hfg i hi).symm)⟩
  rcases (h.1 k code k1 k2 hc).1 k4 with ⟨c, f', a1, a2, a3⟩ | ⟨a1, a2⟩
  · exact Or.inl ⟨c, f', (iff9 c f').mp a1, a2.trans (cT_congr rfl (by omega) hT (UNL_r hU _ _ _ _ _ hn hf a1).2 (fun _ _ => rfl)), a3⟩
  · exact Or.inr ⟨fun c f' w => a1 c f' ((iff9 c f').mpr w), a2⟩
theorem md_iff (hU : okU U) {T T' : Int32 → Int32 → Int32} {z n : Nat} {f g : Nat → Int32} {nn gain : Int} {R1 : Nat → Int32} (hV : okU V) (hn : n ≤ 300) (hf : prg n 0 65535 f) (hfg : ∀ i, i < n → f i = g i) (he : ∀ h, h < z → ∀ (n c : Nat) (f f' : Nat → Int32), prg n 0 65535 f → (U h n f c f' ↔ V h n f c f')) (hT : ∀ x y : Int32, 0 ≤ x.toInt → x.toInt ≤ 65535 → 0 ≤ y.toInt → y.toInt ≤ 65535 → T x y = T' x y) : ∀ c fm v, mdP U T z n f nn gain R1 c fm v ↔ mdP V T' z n g nn gain R1 c fm v := by
  intro c fm v
  have ct : cT T n f = cT T' n g := cT_congr rfl (by omega) hT hf (fun j hj => hfg j (by omega))
  have iff9 : ∀ (k code : Nat), 1 ≤ k → k ≤ 3 → code < rpz z k → (UNL U (digs z k code) n f c fm ↔ UNL V (digs z k code) n g c fm) := fun k code k1 k2 hc => by
    have zp : 1 ≤ z := by
      rcases Nat.eq_zero_or_pos z with w | w
      · subst w
        rcases rk3 k1 k2 with e | e | e <;> subst e <;> exact absurd hc (Nat.not_lt_zero _)
      · exact w
    exact (UNL_iff hU _ _ _ _ _ (fun h hh => he h (digs_lt zp _ _ _ hh)) hf).trans ⟨UNL_g hV _ _ _ _ _ _ hfg, UNL_g hV _ _ _ _ _ _ (fun i hi => (hfg i hi).symm)⟩
  constructor
  · rintro ⟨a0, k, code, k1, k2, k4, hc, hm, hg, hM, hv⟩
    exact ⟨a0, k, code, k1, k2, k4, hc, hm, by rw [← ct]; exact hg, (iff9 k code k1 k2 hc).mp hM, hv⟩
  · rintro ⟨a0, k, code, k1, k2, k4, hc, hm, hg, hM, hv⟩
    exact ⟨a0, k, code, k1, k2, k4, hc, hm, by rw [ct]; exact hg, (iff9 k code k1 k2 hc).mpr hM, hv⟩
theorem rG1_cg {T : Int32 → Int32 → Int32} {z n : Nat} {f : Nat → Int32} {nn l1 la mi mj fi l1' la' mi' mj' fi' : Int} {R1 R2 R3 : Nat → Int32} (h : rG1 U T z n f nn l1 la mi mj fi R1 R2 R3) (e1 : l1 = l1') (e2 : la = la') (e3 : mi = mi') (e4 : mj = mj') (e5 : fi = fi') : rG1 U T z n f nn l1' la' mi' mj' fi' R1 R2 R3 := by
  subst e1
  subst e2
  subst e3
  subst e4
  subst e5
  exact h
theorem to_p (hU : okU U) {r l : Int32} {f f' : Nat → Int32} {h : Nat} {n : Int} (a : F_to U r l f' h n f) (e : ¬ r.toInt = 0) (hf : prg n 0 65535 f) : prg l.toInt 0 65535 f' := by
  obtain ⟨c, c1, c2⟩ := to_1 a e
  rw [c1]
  exact (hU.2.2.1 _ _ _ _ _ (fun j hj => hf j (by omega)) c2).2
theorem to_ps {r q l a b : Int32} {f f' H1 H2 f41 f42 f43 f51 f52 f53 : Nat → Int32} {h : Nat} {n : Int} (hp : F_ps q l f' a b f41 f51 (Bc a f42 f43 f52 f53) n f) (ea : a = H2 h) (eb : b = H1 h) (hr : r.toInt = q.toInt) : F_to (UC H1 H2 f41 f42 f43 f51 f52 f53) r l f' h n f := by
  have e : r = q := v_inj hr
  subst e
  subst ea
  subst eb
  exact hp
theorem to_ur {r q l a b : Int32} {f f' e1 e2 eL eB : Nat → Int32} {h : Nat} {n : Int} (hp : F_ps q l f' b a (fun k => eL k) (fun k => eL (256 + k)) (Br b eB) n f) (ea : a = e1 h) (eb : b = e2 h) (hr : r.toInt = q.toInt) : F_to (UR e1 e2 eL eB) r l f' h n f := by
  have e : r = q := v_inj hr
  subst e
  subst ea
  subst eb
  exact hp
theorem v_mulz {x a b : Int32} (h : x = a * b) (ha : 0 ≤ a.toInt ∧ a.toInt ≤ 42) (hb : 0 ≤ b.toInt ∧ b.toInt ≤ 6) : x.toInt = ((a.toNatClampNeg * b.toNatClampNeg : Nat) : Int) ∧ 0 ≤ x.toInt ∧ x.toInt ≤ 252 := by
  have c1 := v_clamp ha.1
  have c2 := v_clamp hb.1
  have u : a.toNatClampNeg * b.toNatClampNeg ≤ 42 * 6 := Nat.mul_le_mul (by omega) (by omega)
  have e : a.toInt * b.toInt = ((a.toNatClampNeg * b.toNatClampNeg : Nat) : Int) := by rw [Int.natCast_mul, c1, c2]
  have q := v_mul h (by rw [e]; omega) (by rw [e]; omega)
  rw [e] at q
  exact ⟨q, by omega, by omega⟩
theorem pl2_of {al mi la x p : Int32} (h : x = mi * al) (hp : p.toInt = al.toInt + x.toInt + la.toInt) (ra : 0 ≤ al.toInt ∧ al.toInt ≤ 6) (rm : 0 ≤ mi.toInt ∧ mi.toInt ≤ 5) (rl : 0 ≤ la.toInt) : p.toNatClampNeg = al.toNatClampNeg + mi.toNatClampNeg * al.toNatClampNeg + la.toNatClampNeg := by
  have q := v_mulz h (by omega) ra
  have c1 := v_clamp ra.1
  have c2 := v_clamp rl
  exact ix_eq (by omega)
theorem pl3_of {al fi mi la x1 x2 x3 x4 p : Int32} (h1 : x1 = al * al) (h2 : x2 = fi * al) (h3 : x3.toInt = x2.toInt + mi.toInt) (h4 : x4 = x3 * al) (hp : p.toInt = al.toInt + x1.toInt + x4.toInt + la.toInt) (ra : 0 ≤ al.toInt ∧ al.toInt ≤ 6) (rf : 0 ≤ fi.toInt ∧ fi.toInt ≤ 5) (rm : 0 ≤ mi.toInt ∧ mi.toInt ≤ 5) (rl : 0 ≤ la.toInt) (r2 : x2.toInt ≤ 30) : p.toNatClampNeg = al.toNatClampNeg + al.toNatClampNeg * al.toNatClampNeg + (fi.toNatClampNeg * al.toNatClampNeg + mi.toNatClampNeg) * al.toNatClampNeg + la.toNatClampNeg := by
  have q1 := v_mulz h1 (by omega) ra
  have q2 := v_mulz h2 (by omega) ra
  have cm := v_clamp rm.1
  have c3 : x3.toNatClampNeg = fi.toNatClampNeg * al.toNatClampNeg + mi.toNatClampNeg := ix_eq (by omega)
  have q4 := v_mulz h4 (by omega) ra
  rw [c3] at q4
  have c1 := v_clamp ra.1
  have c2 := v_clamp rl
  exact ix_eq (by omega)
theorem v_mulz5 {x a b : Int32} (h : x = a * b) (ha : 0 ≤ a.toInt ∧ a.toInt ≤ 5) (hb : 0 ≤ b.toInt ∧ b.toInt ≤ 6) : x.toInt ≤ 30 := by
  have c1 := v_clamp ha.1
  have c2 := v_clamp hb.1
  have q := v_mulz h (by omega) hb
  have u : a.toNatClampNeg * b.toNatClampNeg ≤ 5 * 6 := Nat.mul_le_mul (by omega) (by omega)
  omega
def F_no (T : Int32 → Int32 → Int32) (pl l : Int32) (g R1 R1' R2 R2' : Nat → Int32) : Prop := ∃ x : Int32, R1' = upd R1 pl.toNatClampNeg x ∧ x.toInt = cT T l.toInt g ∧ 0 ≤ x.toInt ∧ R2' = upd R2 pl.toNatClampNeg l
def F_nh (pl a b d : Int32) (R3 R3' : Nat → Int32) : Prop := R3' = upd (upd (upd R3 (3 * pl.toNatClampNeg) a) (3 * pl.toNatClampNeg + 1) b) (3 * pl.toNatClampNeg + 2) d
theorem wp_of {T : Int32 → Int32 → Int32} {pl l a b d : Int32} {g R1 R1' R2 R2' R3 R3' : Nat → Int32} (hn : F_no T pl l g R1 R1' R2 R2') (hh : F_nh pl a b d R3 R3') (h0 : 0 ≤ l.toInt) : ∃ x : Int32, rWP pl.toNatClampNeg x l a b d R1 R1' R2 R2' R3 R3' ∧ x.toInt = cT T ((l.toInt.toNat : Nat) : Int) g ∧ 0 ≤ x.toInt := by
  obtain ⟨x, a1, a2, a3, a4⟩ := hn
  have e : ((l.toInt.toNat : Nat) : Int) = l.toInt := by omega
  exact ⟨x, ⟨a1, a4, hh⟩, by rw [e]; exact a2, a3⟩
/-- what build() answers -/
def F_bd (U : Nat → Nat → (Nat → Int32) → Nat → (Nat → Int32) → Prop) (L : List Nat) (r l : Int32) (f' : Nat → Int32) (n : Int) (f : Nat → Int32) : Prop := (r = 1 ∧ ∃ c : Nat, l.toInt = c ∧ UNL U L n.toNat f c f') ∨ (r = 0 ∧ ∀ (c : Nat) (f2 : Nat → Int32), ¬ UNL U L n.toNat f c f2)
def bEq (U : Nat → Nat → (Nat → Int32) → Nat → (Nat → Int32) → Prop) (L L' : List Nat) (n n' : Int) (f f' : Nat → Int32) : Prop := ∀ (c : Nat) (g : Nat → Int32), UNL U L n.toNat f c g ↔ UNL U L' n'.toNat f' c g
theorem bl_cp (hU : okU U) {L L' : List Nat} {n m m' : Int} {f g g' : Nat → Int32} (h : bEq U L L' n m f g) (em : m' = m) (hg : ∀ j : Nat, (j : Int) < m → g' j = g j) : bEq U L L' n m' f g' := by
  subst em
  exact fun c k => (h c k).trans ⟨UNL_g hU _ _ _ _ _ _ (fun i hi => (hg i (by omega)).symm), UNL_g hU _ _ _ _ _ _ (fun i hi => hg i (by omega))⟩
theorem bl_0 (hU : okU U) {R f g : Nat → Int32} {p m : Nat} {n n' : Int} (em : m = 3) (en : n' = n) (hg : ∀ j : Nat, (j : Int) < n → g j = f j) : bEq U (flk R p 3) (flk R p m) n n' f g := by
  subst em
  exact bl_cp hU (fun _ _ => Iff.rfl) en hg
theorem bl_sk {R f g : Nat → Int32} {L : List Nat} {p m m' : Nat} {n n' : Int} {i x : Int32} (h : bEq U L (flk R p m) n n' f g) (em : m = m' + 1) (ex : x = R i.toNatClampNeg) (ei : i.toInt = 3 * p + m') (hx : x = -1) : bEq U L (flk R p m') n n' f g := by
  subst em
  have e : R (3 * p + m') = -1 := by rw [← ix_eq (x := i) (N := 3 * p + m') (by omega), ← ex]; exact hx
  have q : flk R p (m' + 1) = flk R p m' := by rw [flk, if_pos e]
  rw [q] at h
  exact h
theorem flk_y {R : Nat → Int32} {p m : Nat} {i x : Int32} (ex : x = R i.toNatClampNeg) (ei : i.toInt = 3 * p + m) (hx : ¬ x = -1) : flk R p (m + 1) = x.toNatClampNeg :: flk R p m := by
  have e : R (3 * p + m) = x := by rw [← ix_eq (x := i) (N := 3 * p + m) (by omega), ← ex]
  rw [flk, e, if_neg hx]
theorem bl_do (hU : okU U) {R f g g2 g3 : Nat → Int32} {L : List Nat} {p m m' : Nat} {n n' : Int} {i x r l l3 : Int32} (h : bEq U L (flk R p m) n n' f g) (em : m = m' + 1) (ex : x = R i.toNatClampNeg) (ei : i.toInt = 3 * p + m') (hx : ¬ x = -1) (ht : F_to U r l g2 x.toNatClampNeg n' g) (hr : ¬ r.toInt = 0) (hg : prg n' 0 65535 g) (e3 : l3.toInt = l.toInt) (hg3 : ∀ j : Nat, (j : Int) < l.toInt → g3 j = g2 j) : bEq U L (flk R p m') n l3.toInt f g3 := by
  subst em
  rw [flk_y ex ei hx] at h
  exact bl_cp hU (fun c k => (h c k).trans (UNL_cons hU (fun j hj => hg j (by omega)) (to_1n ht hr))) e3 hg3
theorem bl_no {R f g g2 f' : Nat → Int32} {L : List Nat} {p m m' : Nat} {n n' : Int} {i x r l q l9 : Int32} (h : bEq U L (flk R p m) n n' f g) (em : m = m' + 1) (ex : x = R i.toNatClampNeg) (ei : i.toInt = 3 * p + m') (hx : ¬ x = -1) (ht : F_to U r l g2 x.toNatClampNeg n' g) (hr : r.toInt = 0) (hq : q.toInt = 0) : F_bd U L q l9 f' n f := by
  subst em
  rw [flk_y ex ei hx] at h
  exact Or.inr ⟨v_inj hq, fun c k w => UNL_no (to_0 ht hr) _ _ ((h c k).mp w)⟩
theorem bl_end {R f g f' : Nat → Int32} {L : List Nat} {p m : Nat} {n n' : Int} {q l9 : Int32} (h : bEq U L (flk R p m) n n' f g) (em : m = 0) (h0 : 0 ≤ n') (hq : q.toInt = 1) (hl : l9.toInt = n') (hf : ∀ j : Nat, (j : Int) < n' → f' j = g j) : F_bd U L q l9 f' n f := by
  subst em
  exact Or.inl ⟨v_inj hq, n'.toNat, by omega, (h _ _).mpr ⟨rfl, fun i hi => hf i (by omega)⟩⟩
theorem nF_st {R : Nat → Int32} {k k' nu nu' x : Int32} (h : nu.toInt = nF R k.toNatClampNeg) (ex : x = R k.toNatClampNeg) (hc : (x = -1 ∧ nu'.toInt = nu.toInt) ∨ (¬ x = -1 ∧ nu'.toInt = nu.toInt + 1)) (h0 : 0 ≤ k.toInt) (hk : k'.toInt = k.toInt + 1) : nu'.toInt = nF R k'.toNatClampNeg := by
  have c := v_clamp h0
  have e : k'.toNatClampNeg = k.toNatClampNeg + 1 := ix_eq (by omega)
  rw [e]
  rcases hc with ⟨a, b⟩ | ⟨a, b⟩
  · rw [nF_n (by rw [← ex]; exact a)]; omega
  · rw [nF_y (by rw [← ex]; exact a)]; omega
theorem md_none {T : Int32 → Int32 → Int32} {z n : Nat} {f : Nat → Int32} {nn gain be : Int} {R1 : Nat → Int32} (h : CHq R1 258 be) (hb : be = -1) : ∀ c fm v, ¬ mdP U T z n f nn gain R1 c fm v := by
  rintro c fm v ⟨_, k, code, _, _, _, _, hm, _⟩
  rcases h with ⟨_, h⟩ | ⟨p, h, _⟩
  · exact hm.2.1 (h _ (by have := hm.1; omega))
  · omega
theorem ch_mn {R1 : Nat → Int32} {be : Int32} (h : CHq R1 258 be.toInt) (hb : ¬ be.toInt = -1) : mnP R1 258 be.toNatClampNeg := by
  rcases h with ⟨h, _⟩ | ⟨p, h, hm⟩
  · exact absurd h hb
  · rw [ix_eq (x := be) (N := p) h]; exact hm
theorem md_less {T : Int32 → Int32 → Int32} {z n p : Nat} {f : Nat → Int32} {nn gain : Int} {R1 : Nat → Int32} (h : mnP R1 258 p) (hl : cT T n f - (R1 p).toInt < gain) : ∀ c fm v, ¬ mdP U T z n f nn gain R1 c fm v := by
  rintro c fm v ⟨_, k, code, _, _, _, _, hm, hg, _⟩
  rw [← mnP_u h hm] at hg
  omega
theorem ge_pos {T : Int32 → Int32 → Int32} {z n p : Nat} {f : Nat → Int32} {nn : Int} {R1 R2 R3 : Nat → Int32} (h : rGE U T z n f nn R1 R2 R3) (hp : p < 258) (hR : ¬ R1 p = -1) : 0 ≤ (R1 p).toInt := by
  obtain ⟨k, code, k1, k2, k4, hc, e, c, f', hM⟩ := ge_code h hp hR
  subst e
  rcases (h.1 k code k1 k2 hc).1 k4 with ⟨c', f2, a1, a2, a3, a4, a5, a6, a7⟩ | ⟨a1, _⟩
  · exact a7
  · exact absurd hM (a1 _ _)
theorem ge_nm {T : Int32 → Int32 → Int32} {z n p : Nat} {f : Nat → Int32} {nn : Int} {R1 R2 R3 : Nat → Int32} (h : rGE U T z n f nn R1 R2 R3) (hp : p < 258) (hR : ¬ R1 p = -1) : ∀ j : Nat, j < 3 → R3 (3 * p + j) = -1 ∨ (0 ≤ (R3 (3 * p + j)).toInt ∧ (R3 (3 * p + j)).toInt < z) := by
  obtain ⟨k, code, k1, k2, k4, hc, e, c, f', hM⟩ := ge_code h hp hR
  subst e
  have m1 : (-1 : Int32).toInt = -1 := rfl
  have zp : 1 ≤ z := by
    rcases Nat.eq_zero_or_pos z with w | w
    · subst w
      rcases rk3 k1 k2 with e | e | e <;> subst e <;> exact absurd hc (Nat.not_lt_zero _)
    · exact w
  have nm : ∀ j, nmz z k code j = -1 ∨ (0 ≤ nmz z k code j ∧ nmz z k code j < z) := fun j => by
    have l1 : code % z < z := Nat.mod_lt _ zp
    have l2 : code / z % z < z := Nat.mod_lt _ zp
    have l3 : code / z / z % z < z := Nat.mod_lt _ zp
    unfold nmz
    split
    · exact Or.inl rfl
    · split
      · exact Or.inr ⟨Int.natCast_nonneg _, Int.ofNat_lt.mpr l1⟩
      · split
        · exact Or.inr ⟨Int.natCast_nonneg _, Int.ofNat_lt.mpr l2⟩
        · exact Or.inr ⟨Int.natCast_nonneg _, Int.ofNat_lt.mpr l3⟩
  rcases (h.1 k code k1 k2 hc).1 k4 with ⟨c', f2, a1, a2, a3, a4, a5, a6, a7⟩ | ⟨a1, _⟩
  · intro j hj
    have cv : ∀ {u : Int32} {d : Int}, u.toInt = d → (d = -1 ∨ (0 ≤ d ∧ d < z)) → (u = -1 ∨ (0 ≤ u.toInt ∧ u.toInt < z)) := fun e1 e2 => by
      rcases e2 with e2 | e2
      · exact Or.inl (v_inj (by rw [m1]; omega))
      · exact Or.inr (by omega)
    have j3 : j = 0 ∨ j = 1 ∨ j = 2 := by omega
    rcases j3 with e | e | e <;> subst e
    · exact cv a4 (nm 0)
    · exact cv a5 (nm 1)
    · exact cv a6 (nm 2)
  · exact absurd hM (a1 _ _)
/-- the cheapest row is made again -/
theorem md_bld (hU : okU U) {T : Int32 → Int32 → Int32} {z n p : Nat} {f f' : Nat → Int32} {m nn gain v : Int} {r l : Int32} {R1 R2 R3 : Nat → Int32} (h : rGE U T z n f nn R1 R2 R3) (em : m.toNat = n) (hn : n ≤ 300) (hf : prg n 0 65535 f) (hm : mnP R1 258 p) (hb : F_bd U (flk R3 p 3) r l f' m f) : ¬ r.toInt = 0 ∧ ((1 ≤ nn ∧ nn ≤ 3 ∧ 1 ≤ gain ∧ gain ≤ 100000) → gain ≤ cT T n f - (R1 p).toInt → v = nF R1 p → ∃ c : Nat, l.toInt = c ∧ mdP U T z n f nn gain R1 c f' v) := by
  obtain ⟨k, code, k1, k2, k4, hc, e, c, f2, hM⟩ := ge_code h hm.1 hm.2.1
  obtain ⟨g1, g2, g3, g4, g5, g6, g7⟩ := ge_y hU h hn hf k1 k2 k4 hc hM
  subst e
  rw [flk_digs k1 k2 g4 g5 g6] at hb
  unfold F_bd at hb
  rw [em] at hb
  rcases hb with ⟨b1, c', b2, b3⟩ | ⟨_, b2⟩
  · exact ⟨fun w => by rw [b1] at w; exact absurd w (by decide), fun q1 q2 q3 => ⟨c', b2, q1, k, code, k1, k2, k4, hc, hm, q2, b3, q3⟩⟩
  · exact absurd hM (b2 _ _)
end RWS

end

/-! 59q.a.rows -/
section
set_option maxRecDepth 100000 in
theorem dA249_cX4_takeOff : kDec cX4_takeOff [(0, .iload_n 1, 1), (1, .ifCond .lt 39, 3), (4, .iload_n 1, 1), (5, .aload_n 0, 1), (6, .getfield 22, 3), (9, .if_icmp .ge 31, 3), (12, .aload_n 0, 1), (13, .getfield 18, 3), (16, .aload_n 0, 1), (17, .getfield 15, 3), (20, .iload_n 1, 1), (21, .iaload, 1), (22, .aload_n 0, 1), (23, .getfield 9, 3), (26, .iload_n 1, 1), (27, .iaload, 1), (28, .aload_n 2, 1), (29, .aload_n 3, 1), (30, .invokevirtual 26, 3), (33, .ifCond .eq 7, 3), (40, .iconst 0, 1), (41, .ireturn, 1), (36, .iconst 1, 1), (37, .goto 4, 3)] = true := by decide +kernel
theorem dX4_takeOff_0 : decode cX4_takeOff 0 = .ok (.iload_n 1, 1) := kDec_at dA249_cX4_takeOff 0 rfl
theorem dX4_takeOff_1 : decode cX4_takeOff 1 = .ok (.ifCond .lt 39, 3) := kDec_at dA249_cX4_takeOff 1 rfl
theorem dX4_takeOff_4 : decode cX4_takeOff 4 = .ok (.iload_n 1, 1) := kDec_at dA249_cX4_takeOff 2 rfl
theorem dX4_takeOff_5 : decode cX4_takeOff 5 = .ok (.aload_n 0, 1) := kDec_at dA249_cX4_takeOff 3 rfl
theorem dX4_takeOff_6 : decode cX4_takeOff 6 = .ok (.getfield 22, 3) := kDec_at dA249_cX4_takeOff 4 rfl
theorem dX4_takeOff_9 : decode cX4_takeOff 9 = .ok (.if_icmp .ge 31, 3) := kDec_at dA249_cX4_takeOff 5 rfl
theorem dX4_takeOff_12 : decode cX4_takeOff 12 = .ok (.aload_n 0, 1) := kDec_at dA249_cX4_takeOff 6 rfl
theorem dX4_takeOff_13 : decode cX4_takeOff 13 = .ok (.getfield 18, 3) := kDec_at dA249_cX4_takeOff 7 rfl
theorem dX4_takeOff_16 : decode cX4_takeOff 16 = .ok (.aload_n 0, 1) := kDec_at dA249_cX4_takeOff 8 rfl
theorem dX4_takeOff_17 : decode cX4_takeOff 17 = .ok (.getfield 15, 3) := kDec_at dA249_cX4_takeOff 9 rfl
theorem dX4_takeOff_20 : decode cX4_takeOff 20 = .ok (.iload_n 1, 1) := kDec_at dA249_cX4_takeOff 10 rfl
theorem dX4_takeOff_21 : decode cX4_takeOff 21 = .ok (.iaload, 1) := kDec_at dA249_cX4_takeOff 11 rfl
theorem dX4_takeOff_22 : decode cX4_takeOff 22 = .ok (.aload_n 0, 1) := kDec_at dA249_cX4_takeOff 12 rfl
theorem dX4_takeOff_23 : decode cX4_takeOff 23 = .ok (.getfield 9, 3) := kDec_at dA249_cX4_takeOff 13 rfl
theorem dX4_takeOff_26 : decode cX4_takeOff 26 = .ok (.iload_n 1, 1) := kDec_at dA249_cX4_takeOff 14 rfl
theorem dX4_takeOff_27 : decode cX4_takeOff 27 = .ok (.iaload, 1) := kDec_at dA249_cX4_takeOff 15 rfl
theorem dX4_takeOff_28 : decode cX4_takeOff 28 = .ok (.aload_n 2, 1) := kDec_at dA249_cX4_takeOff 16 rfl
theorem dX4_takeOff_29 : decode cX4_takeOff 29 = .ok (.aload_n 3, 1) := kDec_at dA249_cX4_takeOff 17 rfl
theorem dX4_takeOff_30 : decode cX4_takeOff 30 = .ok (.invokevirtual 26, 3) := kDec_at dA249_cX4_takeOff 18 rfl
theorem dX4_takeOff_33 : decode cX4_takeOff 33 = .ok (.ifCond .eq 7, 3) := kDec_at dA249_cX4_takeOff 19 rfl
theorem dX4_takeOff_40 : decode cX4_takeOff 40 = .ok (.iconst 0, 1) := kDec_at dA249_cX4_takeOff 20 rfl
theorem dX4_takeOff_41 : decode cX4_takeOff 41 = .ok (.ireturn, 1) := kDec_at dA249_cX4_takeOff 21 rfl
theorem dX4_takeOff_36 : decode cX4_takeOff 36 = .ok (.iconst 1, 1) := kDec_at dA249_cX4_takeOff 22 rfl
theorem dX4_takeOff_37 : decode cX4_takeOff 37 = .ok (.goto 4, 3) := kDec_at dA249_cX4_takeOff 23 rfl
set_option maxRecDepth 20000 in
theorem ggX4_takeOff_X7_pass : GoodIn wsX4_takeOff wsX7_pass := goodIn_sub (fun _ h => List.mem_cons_of_mem _ (List.mem_append_right _ (h))) gX7_pass_all
set_option maxRecDepth 20000 in
theorem gX4_takeOff_X7_pass : GoodIn wsX4_takeOff (wsV RX4 26 RX7 yX7_pass wsX7_pass) := goodIn_app (goodIn_r _ [5, 6, 7, 8] rfl (by decide +kernel)) ggX4_takeOff_X7_pass
set_option maxRecDepth 100000 in
theorem dA250_cX9_nameHarms : kDec cX9_nameHarms [(0, .iload_n 1, 1), (1, .ifCond .lt 42, 3), (4, .iload_n 1, 1), (5, .sipush 258, 3), (8, .if_icmp .ge 35, 3), (11, .aload_n 0, 1), (12, .getfield 33, 3), (15, .iload_n 1, 1), (16, .iconst 3, 1), (17, .imul, 1), (18, .iload_n 2, 1), (19, .iastore, 1), (20, .aload_n 0, 1), (21, .getfield 33, 3), (24, .iload_n 1, 1), (25, .iconst 3, 1), (26, .imul, 1), (27, .iconst 1, 1), (28, .iadd, 1), (29, .iload_n 3, 1), (30, .iastore, 1), (31, .aload_n 0, 1), (32, .getfield 33, 3), (35, .iload_n 1, 1)] = true := by decide +kernel
theorem dX9_nameHarms_0 : decode cX9_nameHarms 0 = .ok (.iload_n 1, 1) := kDec_at dA250_cX9_nameHarms 0 rfl
theorem dX9_nameHarms_1 : decode cX9_nameHarms 1 = .ok (.ifCond .lt 42, 3) := kDec_at dA250_cX9_nameHarms 1 rfl
theorem dX9_nameHarms_4 : decode cX9_nameHarms 4 = .ok (.iload_n 1, 1) := kDec_at dA250_cX9_nameHarms 2 rfl
theorem dX9_nameHarms_5 : decode cX9_nameHarms 5 = .ok (.sipush 258, 3) := kDec_at dA250_cX9_nameHarms 3 rfl
theorem dX9_nameHarms_8 : decode cX9_nameHarms 8 = .ok (.if_icmp .ge 35, 3) := kDec_at dA250_cX9_nameHarms 4 rfl
theorem dX9_nameHarms_11 : decode cX9_nameHarms 11 = .ok (.aload_n 0, 1) := kDec_at dA250_cX9_nameHarms 5 rfl
theorem dX9_nameHarms_12 : decode cX9_nameHarms 12 = .ok (.getfield 33, 3) := kDec_at dA250_cX9_nameHarms 6 rfl
theorem dX9_nameHarms_15 : decode cX9_nameHarms 15 = .ok (.iload_n 1, 1) := kDec_at dA250_cX9_nameHarms 7 rfl
theorem dX9_nameHarms_16 : decode cX9_nameHarms 16 = .ok (.iconst 3, 1) := kDec_at dA250_cX9_nameHarms 8 rfl
theorem dX9_nameHarms_17 : decode cX9_nameHarms 17 = .ok (.imul, 1) := kDec_at dA250_cX9_nameHarms 9 rfl
theorem dX9_nameHarms_18 : decode cX9_nameHarms 18 = .ok (.iload_n 2, 1) := kDec_at dA250_cX9_nameHarms 10 rfl
theorem dX9_nameHarms_19 : decode cX9_nameHarms 19 = .ok (.iastore, 1) := kDec_at dA250_cX9_nameHarms 11 rfl
theorem dX9_nameHarms_20 : decode cX9_nameHarms 20 = .ok (.aload_n 0, 1) := kDec_at dA250_cX9_nameHarms 12 rfl
theorem dX9_nameHarms_21 : decode cX9_nameHarms 21 = .ok (.getfield 33, 3) := kDec_at dA250_cX9_nameHarms 13 rfl
theorem dX9_nameHarms_24 : decode cX9_nameHarms 24 = .ok (.iload_n 1, 1) := kDec_at dA250_cX9_nameHarms 14 rfl
theorem dX9_nameHarms_25 : decode cX9_nameHarms 25 = .ok (.iconst 3, 1) := kDec_at dA250_cX9_nameHarms 15 rfl
theorem dX9_nameHarms_26 : decode cX9_nameHarms 26 = .ok (.imul, 1) := kDec_at dA250_cX9_nameHarms 16 rfl
theorem dX9_nameHarms_27 : decode cX9_nameHarms 27 = .ok (.iconst 1, 1) := kDec_at dA250_cX9_nameHarms 17 rfl
theorem dX9_nameHarms_28 : decode cX9_nameHarms 28 = .ok (.iadd, 1) := kDec_at dA250_cX9_nameHarms 18 rfl
theorem dX9_nameHarms_29 : decode cX9_nameHarms 29 = .ok (.iload_n 3, 1) := kDec_at dA250_cX9_nameHarms 19 rfl
theorem dX9_nameHarms_30 : decode cX9_nameHarms 30 = .ok (.iastore, 1) := kDec_at dA250_cX9_nameHarms 20 rfl
theorem dX9_nameHarms_31 : decode cX9_nameHarms 31 = .ok (.aload_n 0, 1) := kDec_at dA250_cX9_nameHarms 21 rfl
theorem dX9_nameHarms_32 : decode cX9_nameHarms 32 = .ok (.getfield 33, 3) := kDec_at dA250_cX9_nameHarms 22 rfl
theorem dX9_nameHarms_35 : decode cX9_nameHarms 35 = .ok (.iload_n 1, 1) := kDec_at dA250_cX9_nameHarms 23 rfl
set_option maxRecDepth 100000 in
theorem dA251_cX9_nameHarms : kDec cX9_nameHarms [(36, .iconst 3, 1), (37, .imul, 1), (38, .iconst 2, 1), (39, .iadd, 1), (40, .iload 4, 2), (42, .iastore, 1), (43, .return_, 1)] = true := by decide +kernel
theorem dX9_nameHarms_36 : decode cX9_nameHarms 36 = .ok (.iconst 3, 1) := kDec_at dA251_cX9_nameHarms 0 rfl
theorem dX9_nameHarms_37 : decode cX9_nameHarms 37 = .ok (.imul, 1) := kDec_at dA251_cX9_nameHarms 1 rfl
theorem dX9_nameHarms_38 : decode cX9_nameHarms 38 = .ok (.iconst 2, 1) := kDec_at dA251_cX9_nameHarms 2 rfl
theorem dX9_nameHarms_39 : decode cX9_nameHarms 39 = .ok (.iadd, 1) := kDec_at dA251_cX9_nameHarms 3 rfl
theorem dX9_nameHarms_40 : decode cX9_nameHarms 40 = .ok (.iload 4, 2) := kDec_at dA251_cX9_nameHarms 4 rfl
theorem dX9_nameHarms_42 : decode cX9_nameHarms 42 = .ok (.iastore, 1) := kDec_at dA251_cX9_nameHarms 5 rfl
theorem dX9_nameHarms_43 : decode cX9_nameHarms 43 = .ok (.return_, 1) := kDec_at dA251_cX9_nameHarms 6 rfl
set_option maxRecDepth 100000 in
theorem dA252_cX9_note : kDec cX9_note [(0, .iload_n 1, 1), (1, .ifCond .lt 34, 3), (4, .iload_n 1, 1), (5, .sipush 258, 3), (8, .if_icmp .ge 27, 3), (11, .aload_n 0, 1), (12, .getfield 26, 3), (15, .iload_n 1, 1), (16, .aload_n 0, 1), (17, .getfield 49, 3), (20, .aload_n 2, 1), (21, .invokevirtual 81, 3), (24, .iastore, 1), (25, .aload_n 0, 1), (26, .getfield 30, 3), (29, .iload_n 1, 1), (30, .aload_n 2, 1), (31, .invokevirtual 87, 3), (34, .iastore, 1), (35, .return_, 1)] = true := by decide +kernel
theorem dX9_note_0 : decode cX9_note 0 = .ok (.iload_n 1, 1) := kDec_at dA252_cX9_note 0 rfl
theorem dX9_note_1 : decode cX9_note 1 = .ok (.ifCond .lt 34, 3) := kDec_at dA252_cX9_note 1 rfl
theorem dX9_note_4 : decode cX9_note 4 = .ok (.iload_n 1, 1) := kDec_at dA252_cX9_note 2 rfl
theorem dX9_note_5 : decode cX9_note 5 = .ok (.sipush 258, 3) := kDec_at dA252_cX9_note 3 rfl
theorem dX9_note_8 : decode cX9_note 8 = .ok (.if_icmp .ge 27, 3) := kDec_at dA252_cX9_note 4 rfl
theorem dX9_note_11 : decode cX9_note 11 = .ok (.aload_n 0, 1) := kDec_at dA252_cX9_note 5 rfl
theorem dX9_note_12 : decode cX9_note 12 = .ok (.getfield 26, 3) := kDec_at dA252_cX9_note 6 rfl
theorem dX9_note_15 : decode cX9_note 15 = .ok (.iload_n 1, 1) := kDec_at dA252_cX9_note 7 rfl
theorem dX9_note_16 : decode cX9_note 16 = .ok (.aload_n 0, 1) := kDec_at dA252_cX9_note 8 rfl
theorem dX9_note_17 : decode cX9_note 17 = .ok (.getfield 49, 3) := kDec_at dA252_cX9_note 9 rfl
theorem dX9_note_20 : decode cX9_note 20 = .ok (.aload_n 2, 1) := kDec_at dA252_cX9_note 10 rfl
theorem dX9_note_21 : decode cX9_note 21 = .ok (.invokevirtual 81, 3) := kDec_at dA252_cX9_note 11 rfl
theorem dX9_note_24 : decode cX9_note 24 = .ok (.iastore, 1) := kDec_at dA252_cX9_note 12 rfl
theorem dX9_note_25 : decode cX9_note 25 = .ok (.aload_n 0, 1) := kDec_at dA252_cX9_note 13 rfl
theorem dX9_note_26 : decode cX9_note 26 = .ok (.getfield 30, 3) := kDec_at dA252_cX9_note 14 rfl
theorem dX9_note_29 : decode cX9_note 29 = .ok (.iload_n 1, 1) := kDec_at dA252_cX9_note 15 rfl
theorem dX9_note_30 : decode cX9_note 30 = .ok (.aload_n 2, 1) := kDec_at dA252_cX9_note 16 rfl
theorem dX9_note_31 : decode cX9_note 31 = .ok (.invokevirtual 87, 3) := kDec_at dA252_cX9_note 17 rfl
theorem dX9_note_34 : decode cX9_note 34 = .ok (.iastore, 1) := kDec_at dA252_cX9_note 18 rfl
theorem dX9_note_35 : decode cX9_note 35 = .ok (.return_, 1) := kDec_at dA252_cX9_note 19 rfl
set_option maxRecDepth 20000 in
theorem gX3_ofText_all : wsX3_ofText.all goodWord = true := by
  unfold wsX3_ofText
  exact good_c (by decide +kernel) (good_a (good_a (good_a (good_a (good_a ((by decide +kernel)) gX5_clsall) gX3_clsall) gX5_length_all) gX5_get_all) gX3_of_all)
set_option maxRecDepth 20000 in
theorem ggX9_note_X3_ofText : GoodIn wsX9_note wsX3_ofText := goodIn_sub (fun _ h => List.mem_cons_of_mem _ (List.mem_append_left _ (List.mem_append_right _ (h)))) gX3_ofText_all
set_option maxRecDepth 20000 in
theorem gX9_note_X3_ofText : GoodIn wsX9_note (wsV RX9 81 RX3 yX3_ofText wsX3_ofText) := goodIn_app (goodIn_r _ [4, 5, 6, 7] rfl (by decide +kernel)) ggX9_note_X3_ofText
set_option maxRecDepth 20000 in
theorem ggX9_note_X5_length : GoodIn wsX9_note wsX5_length := goodIn_sub (fun _ h => List.mem_cons_of_mem _ (List.mem_append_right _ (h))) gX5_length_all
set_option maxRecDepth 20000 in
theorem gX9_note_X5_length : GoodIn wsX9_note (wsV RX9 87 RX5 yX5_length wsX5_length) := goodIn_app (goodIn_r _ [11, 8, 9, 10] rfl (by decide +kernel)) ggX9_note_X5_length

end

/-! 59q.rows -/
section
set_option maxHeartbeats 40000000 in
set_option maxRecDepth 100000 in
theorem f_X4_takeOff (l : Launch) (dC : Nat → ClassId) (dI : Nat → Nat → Nat) (cI cS : ClassId) (sz : Nat) (oH : Nat) (nx : Nat) (nd : Nat) (oP : Nat) (h1 : Nat) (h2 : Nat) (oC : Nat) (nB : Nat) (aB : Nat) (ax : Nat) (ad : Nat) (o4 : Nat) (o5 : Nat) (a41 : Nat) (a42 : Nat) (a43 : Nat) (a51 : Nat) (a52 : Nat) (a53 : Nat) (lH : Int32) (fH1 : Nat → Int32) (fH2 : Nat → Int32) (ft : Int32) (lB : Int32) (fB : Nat → Int32) (lx : Int32) (fx : Nat → Int32) (ld : Int32) (fd : Nat → Int32) (l4 : Int32) (f41 : Nat → Int32) (f42 : Nat → Int32) (f43 : Nat → Int32) (l5 : Int32) (f51 : Nat → Int32) (f52 : Nat → Int32) (f53 : Nat → Int32) (h : Int32) (g_lH : 0 ≤ lH.toInt ∧ lH.toInt ≤ 6) (g_lB : 0 ≤ lB.toInt ∧ lB.toInt ≤ 2400) (g_lx : 0 ≤ lx.toInt ∧ lx.toInt ≤ 300) (g_ld : 0 ≤ ld.toInt ∧ ld.toInt ≤ 300) (g_h : 0 ≤ h.toInt ∧ h.toInt ≤ 5) (hh : h.toInt < lH.toInt) (hlt : prg lx.toInt 0 65535 fx) (hT4 : HT 512 511 hsT f42 f43) (ho4 : (occ f43 512 : Int) ≤ 511) (hT5 : HT 512 511 hsT f52 f53) (ho5 : (occ f53 512 : Int) ≤ 511) (hL4 : prg 256 (-1) 65535 f41) (hL5 : prg 256 (-1) 65535 f51) (hBr : ∀ cd : Int32, okB (Bc cd f42 f43 f52 f53)) : kMi l yX4_takeOff wsX4_takeOff ({ frames := 5, cells := 0, slots := 0, locals := 124 } : Room) [.ref oH, .int h, .ref nx, .ref nd] sz (dC, dI) vwCl [(cI, .int), (cS, .short)] [(oH, .inr (4, [.ref oP, .ref h1, .ref h2, .int lH])), (h1, .inl (cI, 6, .inl fH1)), (h2, .inl (cI, 6, .inl fH2)), (oP, .inr (7, [.ref oC, .ref nB, .int ft])), (nB, .inr (5, [.ref aB, .int lB])), (aB, .inl (cI, 2400, .inl fB)), (nx, .inr (5, [.ref ax, .int lx])), (ax, .inl (cI, 300, .inl fx)), (nd, .inr (5, [.ref ad, .int ld])), (ad, .inl (cI, 300, .inl fd)), (oC, .inr (2, [.ref o4, .ref o5])), (o4, .inr (10, [.ref a41, .ref a42, .ref a43, .int l4])), (a41, .inl (cI, 256, .inl f41)), (a42, .inl (cI, 512, .inl f42)), (a43, .inl (cI, 512, .inl f43)), (o5, .inr (10, [.ref a51, .ref a52, .ref a53, .int l5])), (a51, .inl (cI, 256, .inl f51)), (a52, .inl (cI, 512, .inl f52)), (a53, .inl (cI, 512, .inl f53))] (va_Nw (.methodLinkNest RX2 52 yX11_isLetter "TextMender")) 0 0 (fun (A : Nat → Prop) (r : Int32) (hh9 : Heap) => ∀ PZ9 : Prop, (∀ (ft' : Int32) (lB' : Int32) (fB' : Nat → Int32) (ld' : Int32) (fd' : Nat → Int32), kPD (dC, dI) vwCl A [(oH, .inr (4, [.ref oP, .ref h1, .ref h2, .int lH])), (h1, .inl (cI, 6, .inl fH1)), (h2, .inl (cI, 6, .inl fH2)), (oP, .inr (7, [.ref oC, .ref nB, .int ft'])), (nB, .inr (5, [.ref aB, .int lB'])), (aB, .inl (cI, 2400, .inl fB')), (nx, .inr (5, [.ref ax, .int lx])), (ax, .inl (cI, 300, .inl fx)), (nd, .inr (5, [.ref ad, .int ld'])), (ad, .inl (cI, 300, .inl fd')), (oC, .inr (2, [.ref o4, .ref o5])), (o4, .inr (10, [.ref a41, .ref a42, .ref a43, .int l4])), (a41, .inl (cI, 256, .inl f41)), (a42, .inl (cI, 512, .inl f42)), (a43, .inl (cI, 512, .inl f43)), (o5, .inr (10, [.ref a51, .ref a52, .ref a53, .int l5])), (a51, .inl (cI, 256, .inl f51)), (a52, .inl (cI, 512, .inl f52)), (a53, .inl (cI, 512, .inl f53))] hh9 → (0 ≤ lB'.toInt ∧ lB'.toInt ≤ 2400) → (0 ≤ ld'.toInt ∧ ld'.toInt ≤ 300) → (0 ≤ r.toInt ∧ r.toInt ≤ 1) → (F_to (UC fH1 fH2 f41 f42 f43 f51 f52 f53) r ld' fd' h.toNatClampNeg lx.toInt fx) → PZ9) → PZ9) := by
  refine kMi_of (cc := cX4_takeOff) (maxL := 4) (ret := (some .boolean)) (lv := [(0, .ref oH), (1, .int h), (2, .ref nx), (3, .ref nd)]) (by decide +kernel) rfl rfl (Nat.le_of_ble_eq_true rfl) ?_
  intro p e s m below meth c A QQ ls hx hb hr hts hml hown hlocks hA hQQ hK hX hP hD hS hl
  have hown : s.vm.findClass RX4 = some m.cls := hown
  have hcf := k_cf hx hb hml hown hts
  have hN52 := hX
  have in_X4 : ∀ w ∈ wsX40, w ∈ wsX4_takeOff := fun _ h => List.mem_cons_of_mem _ (List.mem_append_left _ (List.mem_append_left _ (List.mem_append_left _ (List.mem_append_left _ (List.mem_append_left _ (List.mem_append_right _ (h)))))))
  replace g_lB := hid g_lB
  replace g_ld := hid g_ld
  have z0 : (0 : Int32).toInt = 0 := rfl
  have z1 : (1 : Int32).toInt = 1 := rfl
  have zm1 : (-1 : Int32).toInt = -1 := rfl
  refine lv_iload_n hx hb dX4_takeOff_0 rfl (lv_at hl 1 rfl) ?_
  refine lv_if_lt (tgt := 40) hx hb dX4_takeOff_1 (by decide) (fun c_1 => by exfalso; have tc_1 : h.toInt < 0 := v_lt c_1; omega) (fun c_1 => ?_)
  have tc_1 : 0 ≤ h.toInt := v_nlt c_1
  refine lv_iload_n hx hb dX4_takeOff_4 rfl (lv_at hl 1 rfl) ?_
  refine lv_aload_n hx hb dX4_takeOff_5 rfl (lv_at hl 0 rfl) ?_
  refine va_get (D := (dC, dI)) (ci := 4) (v := .int lH) (C := RX4) (T := TX4) (N := 4) hx hb hts in_X4 hown hK hP 0 rfl rfl 3 (Nat.le_of_ble_eq_true rfl) (hts (.fieldLink RX4 22 "TextMender$Harms" "length" "I") (List.mem_of_getElem? (i := 1) rfl)) (fun _ h9 => h9) rfl dX4_takeOff_6 ?_
  refine lv_icmp_ge (tgt := 40) hx hb dX4_takeOff_9 (by decide) (fun c_2 => by exfalso; have tc_2 : lH.toInt ≤ h.toInt := v_le c_2; omega) (fun c_2 => ?_)
  have tc_2 : h.toInt < lH.toInt := v_nle c_2
  refine lv_aload_n hx hb dX4_takeOff_12 rfl (lv_at hl 0 rfl) ?_
  refine va_get (D := (dC, dI)) (ci := 4) (v := .ref oP) (C := RX4) (T := TX4) (N := 4) hx hb hts in_X4 hown hK hP 0 rfl rfl 0 (Nat.le_of_ble_eq_true rfl) (hts (.fieldLink RX4 18 "TextMender$Harms" "passage" "LTextMender$Passage;") (List.mem_of_getElem? (i := 2) rfl)) (fun _ h9 => h9) rfl dX4_takeOff_13 ?_
  refine lv_aload_n hx hb dX4_takeOff_16 rfl (lv_at hl 0 rfl) ?_
  refine va_get (D := (dC, dI)) (ci := 4) (v := .ref h2) (C := RX4) (T := TX4) (N := 4) hx hb hts in_X4 hown hK hP 0 rfl rfl 2 (Nat.le_of_ble_eq_true rfl) (hts (.fieldLink RX4 15 "TextMender$Harms" "readIn" "[I") (List.mem_of_getElem? (i := 3) rfl)) (fun _ h9 => h9) rfl dX4_takeOff_17 ?_
  refine lv_iload_n hx hb dX4_takeOff_20 rfl (lv_at hl 1 rfl) ?_
  refine va_iald hx hb hK hP 2 0 rfl rfl (v_inR g_h (by decide) (by decide)) dX4_takeOff_21 ?_
  refine lv_topi (fun x_3 ex_3 => ?_)
  refine lv_aload_n hx hb dX4_takeOff_22 rfl (lv_at hl 0 rfl) ?_
  refine va_get (D := (dC, dI)) (ci := 4) (v := .ref h1) (C := RX4) (T := TX4) (N := 4) hx hb hts in_X4 hown hK hP 0 rfl rfl 1 (Nat.le_of_ble_eq_true rfl) (hts (.fieldLink RX4 9 "TextMender$Harms" "writtenIn" "[I") (List.mem_of_getElem? (i := 4) rfl)) (fun _ h9 => h9) rfl dX4_takeOff_23 ?_
  refine lv_iload_n hx hb dX4_takeOff_26 rfl (lv_at hl 1 rfl) ?_
  refine va_iald hx hb hK hP 1 0 rfl rfl (v_inR g_h (by decide) (by decide)) dX4_takeOff_27 ?_
  refine lv_topi (fun x_4 ex_4 => ?_)
  refine lv_aload_n hx hb dX4_takeOff_28 rfl (lv_at hl 2 rfl) ?_
  refine lv_aload_n hx hb dX4_takeOff_29 rfl (lv_at hl 3 rfl) ?_
  refine kV_i (rest := []) (q0 := 0) (ci := 7) hcf (f_X7_pass l dC dI cI cS s.heap.size oP nx nd oC nB aB ax ad o4 o5 a41 a42 a43 a51 a52 a53 ft lB fB lx fx ld fd l4 f41 f42 f43 l5 f51 f52 f53 x_3 x_4 (g_lB) (g_lx) (g_ld) (hlt) (hT4) (by omega) (hT5) (by omega) (hL4) (hL5) (hBr x_3)) kc_X7_pass gX4_takeOff_X7_pass rfl rfl rfl ⟨Nat.le_of_ble_eq_true rfl, Nat.le_of_ble_eq_true rfl⟩ (kX_1 hN52) hK hP hD hS hA (posT mk_24 0) (posF mk_24 0) (kC_of mk_24 rfl rfl) (by decide +kernel) rfl rfl rfl hl rfl (Nat.le_of_ble_eq_true rfl) dX4_takeOff_30 ⟨Nat.le_of_ble_eq_true rfl, Nat.le_of_ble_eq_true rfl⟩ (fun r_5 H locs hB hJ hSn => ?_)
  refine hB _ (fun ft_5 lB_5 fB_5 ld_5 fd_5 hPD9 hf5_0 hf5_1 hf5_2 hf5_3 => ?_)
  clear hB
  obtain ⟨hPn, hDn⟩ := kJi (m := mk_24) hJ rfl hPD9.1 hPD9.2 (wn := [(oH, .inr (4, [.ref oP, .ref h1, .ref h2, .int lH])), (h1, .inl (cI, 6, .inl fH1)), (h2, .inl (cI, 6, .inl fH2)), (oP, .inr (7, [.ref oC, .ref nB, .int ft_5])), (nB, .inr (5, [.ref aB, .int lB_5])), (aB, .inl (cI, 2400, .inl fB_5)), (nx, .inr (5, [.ref ax, .int lx])), (ax, .inl (cI, 300, .inl fx)), (nd, .inr (5, [.ref ad, .int ld_5])), (ad, .inl (cI, 300, .inl fd_5)), (oC, .inr (2, [.ref o4, .ref o5])), (o4, .inr (10, [.ref a41, .ref a42, .ref a43, .int l4])), (a41, .inl (cI, 256, .inl f41)), (a42, .inl (cI, 512, .inl f42)), (a43, .inl (cI, 512, .inl f43)), (o5, .inr (10, [.ref a51, .ref a52, .ref a53, .int l5])), (a51, .inl (cI, 256, .inl f51)), (a52, .inl (cI, 512, .inl f52)), (a53, .inl (cI, 512, .inl f53))]) rfl
  clear hP hD hS hJ hPD9
  have hP := hPn
  have hD := hDn
  have hS := hSn
  clear hPn hDn hSn
  refine lv_if_eq (tgt := 40) hx hb dX4_takeOff_33 (by decide) (fun c_6 => ?_) (fun c_6 => ?_)
  · have tc_6 : r_5.toInt = 0 := v_eq c_6
    refine lv_iconst (v := 0) hx hb dX4_takeOff_40 (by decide) ?_
    exact kl_z (v := 0) hQQ hx hb hr hlocks hS dX4_takeOff_41 (rfl) (fun PZ9 kZ9 => kZ9 ft_5 lB_5 fB_5 ld_5 fd_5 (⟨hP, hD⟩) (hf5_0) (hf5_1) (by decide) (to_ps hf5_3 ex_3 ex_4 (by omega)))
  · have tc_6 : ¬ r_5.toInt = 0 := v_ne c_6
    refine lv_iconst (v := 1) hx hb dX4_takeOff_36 (by decide) ?_
    refine lv_goto (tgt := 41) hx hb dX4_takeOff_37 (by decide) ?_
    exact kl_z (v := 1) hQQ hx hb hr hlocks hS dX4_takeOff_41 (rfl) (fun PZ9 kZ9 => kZ9 ft_5 lB_5 fB_5 ld_5 fd_5 (⟨hP, hD⟩) (hf5_0) (hf5_1) (by decide) (to_ps hf5_3 ex_3 ex_4 (by omega)))

set_option maxHeartbeats 40000000 in
set_option maxRecDepth 100000 in
theorem f_X9_nameHarms (l : Launch) (dC : Nat → ClassId) (dI : Nat → Nat → Nat) (cI cS : ClassId) (sz : Nat) (oR : Nat) (oH : Nat) (oK : Nat) (n1 : Nat) (n2 : Nat) (n3 : Nat) (r1 : Nat) (r2 : Nat) (r3 : Nat) (r4 : Nat) (r5 : Nat) (r6 : Nat) (lR : Int32) (fR3 : Nat → Int32) (pl : Int32) (a : Int32) (b : Int32) (d : Int32) (g_lR : 0 ≤ lR.toInt ∧ lR.toInt ≤ 258) (g_pl : 0 ≤ pl.toInt ∧ pl.toInt ≤ 257) : kMv l yX9_nameHarms wsX9_nameHarms ({ frames := 0, cells := 0, slots := 0, locals := 0 } : Room) [.ref oR, .int pl, .int a, .int b, .int d] sz (dC, dI) vwCl [(cI, .int), (cS, .short)] [(oR, .inr (9, [.ref oH, .ref oK, .ref n1, .ref n2, .ref n3, .ref r1, .ref r2, .ref r3, .ref r4, .ref r5, .ref r6, .int lR])), (r3, .inl (cI, 774, .inl fR3))] (fun _ => True) 0 0 (fun (A : Nat → Prop) (hh9 : Heap) => ∀ PZ9 : Prop, (∀ (fR3' : Nat → Int32), kPD (dC, dI) vwCl A [(oR, .inr (9, [.ref oH, .ref oK, .ref n1, .ref n2, .ref n3, .ref r1, .ref r2, .ref r3, .ref r4, .ref r5, .ref r6, .int lR])), (r3, .inl (cI, 774, .inl fR3'))] hh9 → (F_nh pl a b d fR3 fR3') → PZ9) → PZ9) := by
  refine kMv_of (cc := cX9_nameHarms) (maxL := 5) (ret := none) (lv := [(0, .ref oR), (1, .int pl), (2, .int a), (3, .int b), (4, .int d)]) (by decide +kernel) rfl rfl (Nat.le_of_ble_eq_true rfl) ?_
  intro p e s m below meth c A QQ ls hx hb hr hts hml hown hlocks hA hQQ hK hX hP hD hS hl
  have hown : s.vm.findClass RX9 = some m.cls := hown
  have hcf := k_cf hx hb hml hown hts
  have in_X9 : ∀ w ∈ wsX90, w ∈ wsX9_nameHarms := fun _ h => List.mem_cons_of_mem _ (List.mem_append_right _ (h))
  replace g_lR := hid g_lR
  have c0 := v_clamp (x := pl) (by omega)
  refine lv_iload_n hx hb dX9_nameHarms_0 rfl (lv_at hl 1 rfl) ?_
  refine lv_if_lt (tgt := 43) hx hb dX9_nameHarms_1 (by decide) (fun c_1 => by exfalso; have tc_1 : pl.toInt < 0 := v_lt c_1; omega) (fun c_1 => ?_)
  have tc_1 : 0 ≤ pl.toInt := v_nlt c_1
  refine lv_iload_n hx hb dX9_nameHarms_4 rfl (lv_at hl 1 rfl) ?_
  refine lv_sipush (v := 258) hx hb dX9_nameHarms_5 (by decide) ?_
  refine lv_icmp_ge (tgt := 43) hx hb dX9_nameHarms_8 (by decide) (fun c_2 => by exfalso; have tc_2 : 258 ≤ pl.toInt := v_le c_2; omega) (fun c_2 => ?_)
  have tc_2 : pl.toInt < 258 := v_nle c_2
  refine lv_aload_n hx hb dX9_nameHarms_11 rfl (lv_at hl 0 rfl) ?_
  refine va_get (D := (dC, dI)) (ci := 9) (v := .ref r3) (C := RX9) (T := TX9) (N := 12) hx hb hts in_X9 hown hK hP 0 rfl rfl 7 (Nat.le_of_ble_eq_true rfl) (hts (.fieldLink RX9 33 "TextMender$Rows" "foundHarms" "[I") (List.mem_of_getElem? (i := 1) rfl)) (fun _ h9 => h9) rfl dX9_nameHarms_12 ?_
  refine lv_iload_n hx hb dX9_nameHarms_15 rfl (lv_at hl 1 rfl) ?_
  refine lv_iconst (v := 3) hx hb dX9_nameHarms_16 (by decide) ?_
  refine lv_imul hx hb dX9_nameHarms_17 ?_
  refine lv_topi (fun x_3 ex_3 => ?_)
  have tx_3 : x_3.toInt = pl.toInt * 3 := v_mul ex_3 (by show -2147483648 ≤ pl.toInt * 3; omega) (by show pl.toInt * 3 < 2147483648; omega)
  refine lv_iload_n hx hb dX9_nameHarms_18 rfl (lv_at hl 2 rfl) ?_
  obtain ⟨f_4, ef_4⟩ : ∃ g : Nat → Int32, g = upd fR3 (x_3 : Int32).toNatClampNeg a := ⟨_, rfl⟩
  refine va_iast hx hb hK hP hD hS 1 0 rfl rfl (v_in (by omega)) dX9_nameHarms_19 (kWf (g := f_4) (F := fun f_4 => [(oR, .inr (9, [.ref oH, .ref oK, .ref n1, .ref n2, .ref n3, .ref r1, .ref r2, .ref r3, .ref r4, .ref r5, .ref r6, .int lR])), (r3, .inl (cI, 774, .inl f_4))]) ef_4 rfl (fun H locs hPn hDn hSn => ?_))
  clear hP hD hS
  have hP := hPn
  have hD := hDn
  have hS := hSn
  clear hPn hDn hSn
  refine lv_aload_n hx hb dX9_nameHarms_20 rfl (lv_at hl 0 rfl) ?_
  refine va_get (D := (dC, dI)) (ci := 9) (v := .ref r3) (C := RX9) (T := TX9) (N := 12) hx hb hts in_X9 hown hK hP 0 rfl rfl 7 (Nat.le_of_ble_eq_true rfl) (hts (.fieldLink RX9 33 "TextMender$Rows" "foundHarms" "[I") (List.mem_of_getElem? (i := 1) rfl)) (fun _ h9 => h9) rfl dX9_nameHarms_21 ?_
  refine lv_iload_n hx hb dX9_nameHarms_24 rfl (lv_at hl 1 rfl) ?_
  refine lv_iconst (v := 3) hx hb dX9_nameHarms_25 (by decide) ?_
  refine lv_imul hx hb dX9_nameHarms_26 ?_
  refine lv_topi (fun x_5 ex_5 => ?_)
  have tx_5 : x_5.toInt = pl.toInt * 3 := v_mul ex_5 (by show -2147483648 ≤ pl.toInt * 3; omega) (by show pl.toInt * 3 < 2147483648; omega)
  refine lv_iconst (v := 1) hx hb dX9_nameHarms_27 (by decide) ?_
  refine lv_iadd hx hb dX9_nameHarms_28 ?_
  refine lv_topi (fun x_6 ex_6 => ?_)
  have tx_6 : x_6.toInt = x_5.toInt + 1 := v_add ex_6 (by show -2147483648 ≤ x_5.toInt + 1; omega) (by show x_5.toInt + 1 < 2147483648; omega)
  refine lv_iload_n hx hb dX9_nameHarms_29 rfl (lv_at hl 3 rfl) ?_
  obtain ⟨f_7, ef_7⟩ : ∃ g : Nat → Int32, g = upd f_4 (x_6 : Int32).toNatClampNeg b := ⟨_, rfl⟩
  refine va_iast hx hb hK hP hD hS 1 0 rfl rfl (v_in (by omega)) dX9_nameHarms_30 (kWf (g := f_7) (F := fun f_7 => [(oR, .inr (9, [.ref oH, .ref oK, .ref n1, .ref n2, .ref n3, .ref r1, .ref r2, .ref r3, .ref r4, .ref r5, .ref r6, .int lR])), (r3, .inl (cI, 774, .inl f_7))]) ef_7 rfl (fun H locs hPn hDn hSn => ?_))
  clear hP hD hS
  have hP := hPn
  have hD := hDn
  have hS := hSn
  clear hPn hDn hSn
  refine lv_aload_n hx hb dX9_nameHarms_31 rfl (lv_at hl 0 rfl) ?_
  refine va_get (D := (dC, dI)) (ci := 9) (v := .ref r3) (C := RX9) (T := TX9) (N := 12) hx hb hts in_X9 hown hK hP 0 rfl rfl 7 (Nat.le_of_ble_eq_true rfl) (hts (.fieldLink RX9 33 "TextMender$Rows" "foundHarms" "[I") (List.mem_of_getElem? (i := 1) rfl)) (fun _ h9 => h9) rfl dX9_nameHarms_32 ?_
  refine lv_iload_n hx hb dX9_nameHarms_35 rfl (lv_at hl 1 rfl) ?_
  refine lv_iconst (v := 3) hx hb dX9_nameHarms_36 (by decide) ?_
  refine lv_imul hx hb dX9_nameHarms_37 ?_
  refine lv_topi (fun x_8 ex_8 => ?_)
  have tx_8 : x_8.toInt = pl.toInt * 3 := v_mul ex_8 (by show -2147483648 ≤ pl.toInt * 3; omega) (by show pl.toInt * 3 < 2147483648; omega)
  refine lv_iconst (v := 2) hx hb dX9_nameHarms_38 (by decide) ?_
  refine lv_iadd hx hb dX9_nameHarms_39 ?_
  refine lv_topi (fun x_9 ex_9 => ?_)
  have tx_9 : x_9.toInt = x_8.toInt + 2 := v_add ex_9 (by show -2147483648 ≤ x_8.toInt + 2; omega) (by show x_8.toInt + 2 < 2147483648; omega)
  refine lv_iload hx hb dX9_nameHarms_40 (lv_at hl 4 rfl) ?_
  obtain ⟨f_10, ef_10⟩ : ∃ g : Nat → Int32, g = upd f_7 (x_9 : Int32).toNatClampNeg d := ⟨_, rfl⟩
  refine va_iast hx hb hK hP hD hS 1 0 rfl rfl (v_in (by omega)) dX9_nameHarms_42 (kWf (g := f_10) (F := fun f_10 => [(oR, .inr (9, [.ref oH, .ref oK, .ref n1, .ref n2, .ref n3, .ref r1, .ref r2, .ref r3, .ref r4, .ref r5, .ref r6, .int lR])), (r3, .inl (cI, 774, .inl f_10))]) ef_10 rfl (fun H locs hPn hDn hSn => ?_))
  clear hP hD hS
  have hP := hPn
  have hD := hDn
  have hS := hSn
  clear hPn hDn hSn
  exact kl_v hQQ hx hb hr hlocks hS dX9_nameHarms_43 (fun PZ9 kZ9 => kZ9 f_10 (⟨hP, hD⟩) (by show _ = _; rw [ef_10, ef_7, ef_4, ix_eq (x := x_3) (N := 3 * pl.toNatClampNeg) (by omega), ix_eq (x := x_6) (N := 3 * pl.toNatClampNeg + 1) (by omega), ix_eq (x := x_9) (N := 3 * pl.toNatClampNeg + 2) (by omega)]))

set_option maxHeartbeats 40000000 in
set_option maxRecDepth 100000 in
theorem f_X9_note (l : Launch) (dC : Nat → ClassId) (dI : Nat → Nat → Nat) (cI cS : ClassId) (sz : Nat) (oR : Nat) (nx : Nat) (oH : Nat) (oK : Nat) (n1 : Nat) (n2 : Nat) (n3 : Nat) (r1 : Nat) (r2 : Nat) (r3 : Nat) (r4 : Nat) (r5 : Nat) (r6 : Nat) (k1 : Nat) (k2 : Nat) (ax : Nat) (lR : Int32) (fR1 : Nat → Int32) (fR2 : Nat → Int32) (lK : Int32) (fK1 : Nat → Int32) (fK2 : Nat → Int32) (lx : Int32) (fx : Nat → Int32) (pl : Int32) (g_lR : 0 ≤ lR.toInt ∧ lR.toInt ≤ 258) (g_lK : 0 ≤ lK.toInt ∧ lK.toInt ≤ 300) (g_lx : 0 ≤ lx.toInt ∧ lx.toInt ≤ 300) (g_pl : 0 ≤ pl.toInt ∧ pl.toInt ≤ 257) (hT : HT 1024 1023 hsK fK1 fK2) (ho : (occ fK2 1024 : Int) ≤ lK.toInt) (hV : prg 1024 (-1) 200 fK2) (hlt : prg lx.toInt 0 65535 fx) : kMv l yX9_note wsX9_note ({ frames := 4, cells := 0, slots := 0, locals := 98 } : Room) [.ref oR, .int pl, .ref nx] sz (dC, dI) vwCl [(cI, .int), (cS, .short)] [(oR, .inr (9, [.ref oH, .ref oK, .ref n1, .ref n2, .ref n3, .ref r1, .ref r2, .ref r3, .ref r4, .ref r5, .ref r6, .int lR])), (r1, .inl (cI, 258, .inl fR1)), (r2, .inl (cI, 258, .inl fR2)), (oK, .inr (3, [.ref k1, .ref k2, .int lK])), (k1, .inl (cI, 1024, .inl fK1)), (k2, .inl (cI, 1024, .inl fK2)), (nx, .inr (5, [.ref ax, .int lx])), (ax, .inl (cI, 300, .inl fx))] (fun _ => True) 0 0 (fun (A : Nat → Prop) (hh9 : Heap) => ∀ PZ9 : Prop, (∀ (fR1' : Nat → Int32) (fR2' : Nat → Int32), kPD (dC, dI) vwCl A [(oR, .inr (9, [.ref oH, .ref oK, .ref n1, .ref n2, .ref n3, .ref r1, .ref r2, .ref r3, .ref r4, .ref r5, .ref r6, .int lR])), (r1, .inl (cI, 258, .inl fR1')), (r2, .inl (cI, 258, .inl fR2')), (oK, .inr (3, [.ref k1, .ref k2, .int lK])), (k1, .inl (cI, 1024, .inl fK1)), (k2, .inl (cI, 1024, .inl fK2)), (nx, .inr (5, [.ref ax, .int lx])), (ax, .inl (cI, 300, .inl fx))] hh9 → (F_no (tcC fK1 fK2) pl lx fx fR1 fR1' fR2 fR2') → PZ9) → PZ9) := by
  refine kMv_of (cc := cX9_note) (maxL := 3) (ret := none) (lv := [(0, .ref oR), (1, .int pl), (2, .ref nx)]) (by decide +kernel) rfl rfl (Nat.le_of_ble_eq_true rfl) ?_
  intro p e s m below meth c A QQ ls hx hb hr hts hml hown hlocks hA hQQ hK hX hP hD hS hl
  have hown : s.vm.findClass RX9 = some m.cls := hown
  have hcf := k_cf hx hb hml hown hts
  have in_X9 : ∀ w ∈ wsX90, w ∈ wsX9_note := fun _ h => List.mem_cons_of_mem _ (List.mem_append_left _ (List.mem_append_left _ (List.mem_append_left _ (List.mem_append_left _ (List.mem_append_right _ (h))))))
  replace g_lR := hid g_lR
  refine lv_iload_n hx hb dX9_note_0 rfl (lv_at hl 1 rfl) ?_
  refine lv_if_lt (tgt := 35) hx hb dX9_note_1 (by decide) (fun c_1 => by exfalso; have tc_1 : pl.toInt < 0 := v_lt c_1; omega) (fun c_1 => ?_)
  have tc_1 : 0 ≤ pl.toInt := v_nlt c_1
  refine lv_iload_n hx hb dX9_note_4 rfl (lv_at hl 1 rfl) ?_
  refine lv_sipush (v := 258) hx hb dX9_note_5 (by decide) ?_
  refine lv_icmp_ge (tgt := 35) hx hb dX9_note_8 (by decide) (fun c_2 => by exfalso; have tc_2 : 258 ≤ pl.toInt := v_le c_2; omega) (fun c_2 => ?_)
  have tc_2 : pl.toInt < 258 := v_nle c_2
  refine lv_aload_n hx hb dX9_note_11 rfl (lv_at hl 0 rfl) ?_
  refine va_get (D := (dC, dI)) (ci := 9) (v := .ref r1) (C := RX9) (T := TX9) (N := 12) hx hb hts in_X9 hown hK hP 0 rfl rfl 5 (Nat.le_of_ble_eq_true rfl) (hts (.fieldLink RX9 26 "TextMender$Rows" "foundCost" "[I") (List.mem_of_getElem? (i := 1) rfl)) (fun _ h9 => h9) rfl dX9_note_12 ?_
  refine lv_iload_n hx hb dX9_note_15 rfl (lv_at hl 1 rfl) ?_
  refine lv_aload_n hx hb dX9_note_16 rfl (lv_at hl 0 rfl) ?_
  refine va_get (D := (dC, dI)) (ci := 9) (v := .ref oK) (C := RX9) (T := TX9) (N := 12) hx hb hts in_X9 hown hK hP 0 rfl rfl 1 (Nat.le_of_ble_eq_true rfl) (hts (.fieldLink RX9 49 "TextMender$Rows" "costs" "LTextMender$Costs;") (List.mem_of_getElem? (i := 2) rfl)) (fun _ h9 => h9) rfl dX9_note_17 ?_
  refine lv_aload_n hx hb dX9_note_20 rfl (lv_at hl 2 rfl) ?_
  refine kV_i (rest := [.int pl, .ref r1]) (q0 := 0) (ci := 3) hcf (f_X3_ofText l dC dI cI cS s.heap.size oK nx k1 k2 ax lK fK1 fK2 lx fx (g_lK) (g_lx) (hT) (ho) (hV) (hlt)) kc_X3_ofText gX9_note_X3_ofText rfl rfl rfl ⟨Nat.le_of_ble_eq_true rfl, Nat.le_of_ble_eq_true rfl⟩ kX_t hK hP hD hS hA (posT mk_25 0) (posF mk_25 0) (kC_of mk_25 rfl rfl) (by decide +kernel) rfl rfl rfl hl rfl (Nat.le_of_ble_eq_true rfl) dX9_note_21 ⟨Nat.le_of_ble_eq_true rfl, Nat.le_of_ble_eq_true rfl⟩ (fun r_3 H locs hB hJ hSn => ?_)
  refine hB _ (fun hPD9 hf3_0 hf3_1 => ?_)
  clear hB
  obtain ⟨hPn, hDn⟩ := kJi (m := mk_25) hJ rfl hPD9.1 hPD9.2 (wn := [(oR, .inr (9, [.ref oH, .ref oK, .ref n1, .ref n2, .ref n3, .ref r1, .ref r2, .ref r3, .ref r4, .ref r5, .ref r6, .int lR])), (r1, .inl (cI, 258, .inl fR1)), (r2, .inl (cI, 258, .inl fR2)), (oK, .inr (3, [.ref k1, .ref k2, .int lK])), (k1, .inl (cI, 1024, .inl fK1)), (k2, .inl (cI, 1024, .inl fK2)), (nx, .inr (5, [.ref ax, .int lx])), (ax, .inl (cI, 300, .inl fx))]) rfl
  clear hP hD hS hJ hPD9
  have hP := hPn
  have hD := hDn
  have hS := hSn
  clear hPn hDn hSn
  obtain ⟨f_4, ef_4⟩ : ∃ g : Nat → Int32, g = upd fR1 (pl : Int32).toNatClampNeg r_3 := ⟨_, rfl⟩
  refine va_iast hx hb hK hP hD hS 1 0 rfl rfl (v_inR g_pl (by decide) (by decide)) dX9_note_24 (kWf (g := f_4) (F := fun f_4 => [(oR, .inr (9, [.ref oH, .ref oK, .ref n1, .ref n2, .ref n3, .ref r1, .ref r2, .ref r3, .ref r4, .ref r5, .ref r6, .int lR])), (r1, .inl (cI, 258, .inl f_4)), (r2, .inl (cI, 258, .inl fR2)), (oK, .inr (3, [.ref k1, .ref k2, .int lK])), (k1, .inl (cI, 1024, .inl fK1)), (k2, .inl (cI, 1024, .inl fK2)), (nx, .inr (5, [.ref ax, .int lx])), (ax, .inl (cI, 300, .inl fx))]) ef_4 rfl (fun H locs hPn hDn hSn => ?_))
  clear hP hD hS
  have hP := hPn
  have hD := hDn
  have hS := hSn
  clear hPn hDn hSn
  refine lv_aload_n hx hb dX9_note_25 rfl (lv_at hl 0 rfl) ?_
  refine va_get (D := (dC, dI)) (ci := 9) (v := .ref r2) (C := RX9) (T := TX9) (N := 12) hx hb hts in_X9 hown hK hP 0 rfl rfl 6 (Nat.le_of_ble_eq_true rfl) (hts (.fieldLink RX9 30 "TextMender$Rows" "foundLength" "[I") (List.mem_of_getElem? (i := 3) rfl)) (fun _ h9 => h9) rfl dX9_note_26 ?_
  refine lv_iload_n hx hb dX9_note_29 rfl (lv_at hl 1 rfl) ?_
  refine lv_aload_n hx hb dX9_note_30 rfl (lv_at hl 2 rfl) ?_
  refine kV_i (rest := [.int pl, .ref r2]) (q0 := 0) (ci := 5) hcf (m_X5_length l dC dI cI cS H.size nx ax lx ) kc_X5_length gX9_note_X5_length rfl rfl rfl ⟨Nat.le_of_ble_eq_true rfl, Nat.le_of_ble_eq_true rfl⟩ kX_t hK hP hD hS hA (posT mk_26 0) (posF mk_26 0) (kC_of mk_26 rfl rfl) (by decide +kernel) rfl rfl rfl hl rfl (Nat.le_of_ble_eq_true rfl) dX9_note_31 ⟨Nat.le_of_ble_eq_true rfl, Nat.le_of_ble_eq_true rfl⟩ (fun r_5 H locs hB hJ hSn => ?_)
  refine hB _ (fun hPD9 hf5_0 => ?_)
  clear hB
  obtain ⟨hPn, hDn⟩ := kJi (m := mk_26) hJ rfl hPD9.1 hPD9.2 (wn := [(oR, .inr (9, [.ref oH, .ref oK, .ref n1, .ref n2, .ref n3, .ref r1, .ref r2, .ref r3, .ref r4, .ref r5, .ref r6, .int lR])), (r1, .inl (cI, 258, .inl f_4)), (r2, .inl (cI, 258, .inl fR2)), (oK, .inr (3, [.ref k1, .ref k2, .int lK])), (k1, .inl (cI, 1024, .inl fK1)), (k2, .inl (cI, 1024, .inl fK2)), (nx, .inr (5, [.ref ax, .int lx])), (ax, .inl (cI, 300, .inl fx))]) rfl
  clear hP hD hS hJ hPD9
  have hP := hPn
  have hD := hDn
  have hS := hSn
  clear hPn hDn hSn
  rw [hf5_0]
  obtain ⟨f_6, ef_6⟩ : ∃ g : Nat → Int32, g = upd fR2 (pl : Int32).toNatClampNeg lx := ⟨_, rfl⟩
  refine va_iast hx hb hK hP hD hS 2 0 rfl rfl (v_inR g_pl (by decide) (by decide)) dX9_note_34 (kWf (g := f_6) (F := fun f_6 => [(oR, .inr (9, [.ref oH, .ref oK, .ref n1, .ref n2, .ref n3, .ref r1, .ref r2, .ref r3, .ref r4, .ref r5, .ref r6, .int lR])), (r1, .inl (cI, 258, .inl f_4)), (r2, .inl (cI, 258, .inl f_6)), (oK, .inr (3, [.ref k1, .ref k2, .int lK])), (k1, .inl (cI, 1024, .inl fK1)), (k2, .inl (cI, 1024, .inl fK2)), (nx, .inr (5, [.ref ax, .int lx])), (ax, .inl (cI, 300, .inl fx))]) ef_6 rfl (fun H locs hPn hDn hSn => ?_))
  clear hP hD hS
  have hP := hPn
  have hD := hDn
  have hS := hSn
  clear hPn hDn hSn
  exact kl_v hQQ hx hb hr hlocks hS dX9_note_35 (fun PZ9 kZ9 => kZ9 f_4 f_6 (⟨hP, hD⟩) (⟨r_3, ef_4, hf3_1, by omega, ef_6⟩))

end

/-! 59r.a.rows -/
section
set_option maxRecDepth 100000 in
theorem dA253_cX9_find : kDec cX9_find [(0, .aload_n 0, 1), (1, .getfield 26, 3), (4, .iconst (-1), 1), (5, .invokestatic 53, 3), (8, .aload_n 0, 1), (9, .getfield 45, 3), (12, .invokevirtual 63, 3), (15, .istore_n 3, 1), (16, .iconst 0, 1), (17, .istore 4, 2), (19, .iload 4, 2), (21, .iload_n 3, 1), (22, .if_icmp .ge 206, 3), (228, .return_, 1), (25, .aload_n 0, 1), (26, .getfield 45, 3), (29, .iload 4, 2), (31, .aload_n 2, 1), (32, .aload_n 0, 1), (33, .getfield 14, 3), (36, .invokevirtual 69, 3), (39, .ifCond .ne 6, 3), (45, .aload_n 0, 1), (46, .iload 4, 2)] = true := by decide +kernel
theorem dX9_find_0 : decode cX9_find 0 = .ok (.aload_n 0, 1) := kDec_at dA253_cX9_find 0 rfl
theorem dX9_find_1 : decode cX9_find 1 = .ok (.getfield 26, 3) := kDec_at dA253_cX9_find 1 rfl
theorem dX9_find_4 : decode cX9_find 4 = .ok (.iconst (-1), 1) := kDec_at dA253_cX9_find 2 rfl
theorem dX9_find_5 : decode cX9_find 5 = .ok (.invokestatic 53, 3) := kDec_at dA253_cX9_find 3 rfl
theorem dX9_find_8 : decode cX9_find 8 = .ok (.aload_n 0, 1) := kDec_at dA253_cX9_find 4 rfl
theorem dX9_find_9 : decode cX9_find 9 = .ok (.getfield 45, 3) := kDec_at dA253_cX9_find 5 rfl
theorem dX9_find_12 : decode cX9_find 12 = .ok (.invokevirtual 63, 3) := kDec_at dA253_cX9_find 6 rfl
theorem dX9_find_15 : decode cX9_find 15 = .ok (.istore_n 3, 1) := kDec_at dA253_cX9_find 7 rfl
theorem dX9_find_16 : decode cX9_find 16 = .ok (.iconst 0, 1) := kDec_at dA253_cX9_find 8 rfl
theorem dX9_find_17 : decode cX9_find 17 = .ok (.istore 4, 2) := kDec_at dA253_cX9_find 9 rfl
theorem dX9_find_19 : decode cX9_find 19 = .ok (.iload 4, 2) := kDec_at dA253_cX9_find 10 rfl
theorem dX9_find_21 : decode cX9_find 21 = .ok (.iload_n 3, 1) := kDec_at dA253_cX9_find 11 rfl
theorem dX9_find_22 : decode cX9_find 22 = .ok (.if_icmp .ge 206, 3) := kDec_at dA253_cX9_find 12 rfl
theorem dX9_find_228 : decode cX9_find 228 = .ok (.return_, 1) := kDec_at dA253_cX9_find 13 rfl
theorem dX9_find_25 : decode cX9_find 25 = .ok (.aload_n 0, 1) := kDec_at dA253_cX9_find 14 rfl
theorem dX9_find_26 : decode cX9_find 26 = .ok (.getfield 45, 3) := kDec_at dA253_cX9_find 15 rfl
theorem dX9_find_29 : decode cX9_find 29 = .ok (.iload 4, 2) := kDec_at dA253_cX9_find 16 rfl
theorem dX9_find_31 : decode cX9_find 31 = .ok (.aload_n 2, 1) := kDec_at dA253_cX9_find 17 rfl
theorem dX9_find_32 : decode cX9_find 32 = .ok (.aload_n 0, 1) := kDec_at dA253_cX9_find 18 rfl
theorem dX9_find_33 : decode cX9_find 33 = .ok (.getfield 14, 3) := kDec_at dA253_cX9_find 19 rfl
theorem dX9_find_36 : decode cX9_find 36 = .ok (.invokevirtual 69, 3) := kDec_at dA253_cX9_find 20 rfl
theorem dX9_find_39 : decode cX9_find 39 = .ok (.ifCond .ne 6, 3) := kDec_at dA253_cX9_find 21 rfl
theorem dX9_find_45 : decode cX9_find 45 = .ok (.aload_n 0, 1) := kDec_at dA253_cX9_find 22 rfl
theorem dX9_find_46 : decode cX9_find 46 = .ok (.iload 4, 2) := kDec_at dA253_cX9_find 23 rfl
set_option maxRecDepth 20000 in
theorem ggX9_find_J7_fill_53178 : GoodIn wsX9_find wsJ7_fill_53178 := goodIn_sub (fun _ h => List.mem_cons_of_mem _ (List.mem_append_left _ (List.mem_append_left _ (List.mem_append_left _ (List.mem_append_left _ (List.mem_append_right _ (h))))))) gJ7_fill_53178_all
set_option maxRecDepth 20000 in
theorem gX9_find_J7_fill_53178 : GoodIn wsX9_find (va_wsS RX9 53 yJ7_fill_53178 wsJ7_fill_53178) := goodIn_app (goodIn_r _ [6, 7, 8] rfl (by decide +kernel)) ggX9_find_J7_fill_53178
set_option maxRecDepth 20000 in
theorem ggX9_find_X4_length : GoodIn wsX9_find wsX4_length := goodIn_sub (fun _ h => List.mem_cons_of_mem _ (List.mem_append_left _ (List.mem_append_left _ (List.mem_append_left _ (List.mem_append_right _ (h)))))) gX4_length_all
set_option maxRecDepth 20000 in
theorem gX9_find_X4_length : GoodIn wsX9_find (wsV RX9 63 RX4 yX4_length wsX4_length) := goodIn_app (goodIn_r _ [9, 10, 11, 12] rfl (by decide +kernel)) ggX9_find_X4_length
set_option maxRecDepth 20000 in
theorem gX4_takeOff_all : wsX4_takeOff.all goodWord = true := by
  unfold wsX4_takeOff
  exact good_c (by decide +kernel) (good_a (good_a (good_a (good_a (good_a (good_a ((by decide +kernel)) gX4_clsall) gX7_clsall) gX5_clsall) gX2_clsall) gX10_clsall) gX7_pass_all)
set_option maxRecDepth 20000 in
theorem ggX9_find_X4_takeOff : GoodIn wsX9_find wsX4_takeOff := goodIn_sub (fun _ h => List.mem_cons_of_mem _ (List.mem_append_left _ (List.mem_append_left _ (List.mem_append_right _ (h))))) gX4_takeOff_all
set_option maxRecDepth 20000 in
theorem gX9_find_X4_takeOff : GoodIn wsX9_find (wsV RX9 69 RX4 yX4_takeOff wsX4_takeOff) := goodIn_app (goodIn_r _ [13, 14, 15, 12] rfl (by decide +kernel)) ggX9_find_X4_takeOff
set_option maxRecDepth 100000 in
theorem dA254_cX9_find : kDec cX9_find [(48, .aload_n 0, 1), (49, .getfield 14, 3), (52, .invokevirtual 73, 3), (55, .aload_n 0, 1), (56, .iload 4, 2), (58, .iload 4, 2), (60, .iconst (-1), 1), (61, .iconst (-1), 1), (62, .invokevirtual 77, 3), (65, .iconst 0, 1), (66, .istore 5, 2), (68, .iload_n 1, 1), (69, .iconst 1, 1), (70, .if_icmp .le 152, 3), (222, .iinc 4 1, 3), (225, .goto (-206), 3), (73, .iload 5, 2), (75, .iload_n 3, 1), (76, .if_icmp .ge 146, 3), (79, .aload_n 0, 1), (80, .getfield 45, 3), (83, .iload 5, 2), (85, .aload_n 0, 1), (86, .getfield 14, 3)] = true := by decide +kernel
theorem dX9_find_48 : decode cX9_find 48 = .ok (.aload_n 0, 1) := kDec_at dA254_cX9_find 0 rfl
theorem dX9_find_49 : decode cX9_find 49 = .ok (.getfield 14, 3) := kDec_at dA254_cX9_find 1 rfl
theorem dX9_find_52 : decode cX9_find 52 = .ok (.invokevirtual 73, 3) := kDec_at dA254_cX9_find 2 rfl
theorem dX9_find_55 : decode cX9_find 55 = .ok (.aload_n 0, 1) := kDec_at dA254_cX9_find 3 rfl
theorem dX9_find_56 : decode cX9_find 56 = .ok (.iload 4, 2) := kDec_at dA254_cX9_find 4 rfl
theorem dX9_find_58 : decode cX9_find 58 = .ok (.iload 4, 2) := kDec_at dA254_cX9_find 5 rfl
theorem dX9_find_60 : decode cX9_find 60 = .ok (.iconst (-1), 1) := kDec_at dA254_cX9_find 6 rfl
theorem dX9_find_61 : decode cX9_find 61 = .ok (.iconst (-1), 1) := kDec_at dA254_cX9_find 7 rfl
theorem dX9_find_62 : decode cX9_find 62 = .ok (.invokevirtual 77, 3) := kDec_at dA254_cX9_find 8 rfl
theorem dX9_find_65 : decode cX9_find 65 = .ok (.iconst 0, 1) := kDec_at dA254_cX9_find 9 rfl
theorem dX9_find_66 : decode cX9_find 66 = .ok (.istore 5, 2) := kDec_at dA254_cX9_find 10 rfl
theorem dX9_find_68 : decode cX9_find 68 = .ok (.iload_n 1, 1) := kDec_at dA254_cX9_find 11 rfl
theorem dX9_find_69 : decode cX9_find 69 = .ok (.iconst 1, 1) := kDec_at dA254_cX9_find 12 rfl
theorem dX9_find_70 : decode cX9_find 70 = .ok (.if_icmp .le 152, 3) := kDec_at dA254_cX9_find 13 rfl
theorem dX9_find_222 : decode cX9_find 222 = .ok (.iinc 4 1, 3) := kDec_at dA254_cX9_find 14 rfl
theorem dX9_find_225 : decode cX9_find 225 = .ok (.goto (-206), 3) := kDec_at dA254_cX9_find 15 rfl
theorem dX9_find_73 : decode cX9_find 73 = .ok (.iload 5, 2) := kDec_at dA254_cX9_find 16 rfl
theorem dX9_find_75 : decode cX9_find 75 = .ok (.iload_n 3, 1) := kDec_at dA254_cX9_find 17 rfl
theorem dX9_find_76 : decode cX9_find 76 = .ok (.if_icmp .ge 146, 3) := kDec_at dA254_cX9_find 18 rfl
theorem dX9_find_79 : decode cX9_find 79 = .ok (.aload_n 0, 1) := kDec_at dA254_cX9_find 19 rfl
theorem dX9_find_80 : decode cX9_find 80 = .ok (.getfield 45, 3) := kDec_at dA254_cX9_find 20 rfl
theorem dX9_find_83 : decode cX9_find 83 = .ok (.iload 5, 2) := kDec_at dA254_cX9_find 21 rfl
theorem dX9_find_85 : decode cX9_find 85 = .ok (.aload_n 0, 1) := kDec_at dA254_cX9_find 22 rfl
theorem dX9_find_86 : decode cX9_find 86 = .ok (.getfield 14, 3) := kDec_at dA254_cX9_find 23 rfl
set_option maxRecDepth 20000 in
theorem gX9_note_all : wsX9_note.all goodWord = true := by
  unfold wsX9_note
  exact good_c (by decide +kernel) (good_a (good_a (good_a (good_a (good_a ((by decide +kernel)) gX9_clsall) gX5_clsall) gX3_clsall) gX3_ofText_all) gX5_length_all)
set_option maxRecDepth 20000 in
theorem ggX9_find_X9_note : GoodIn wsX9_find wsX9_note := goodIn_sub (fun _ h => List.mem_cons_of_mem _ (List.mem_append_left _ (List.mem_append_right _ (h)))) gX9_note_all
set_option maxRecDepth 20000 in
theorem gX9_find_X9_note : GoodIn wsX9_find (wsV RX9 73 RX9 yX9_note wsX9_note) := goodIn_app (goodIn_r _ [16, 17, 18, 19] rfl (by decide +kernel)) ggX9_find_X9_note
set_option maxRecDepth 20000 in
theorem gX9_nameHarms_all : wsX9_nameHarms.all goodWord = true := by
  unfold wsX9_nameHarms
  exact good_c (by decide +kernel) (good_a ((by decide +kernel)) gX9_clsall)
set_option maxRecDepth 20000 in
theorem ggX9_find_X9_nameHarms : GoodIn wsX9_find wsX9_nameHarms := goodIn_sub (fun _ h => List.mem_cons_of_mem _ (List.mem_append_right _ (h))) gX9_nameHarms_all
set_option maxRecDepth 20000 in
theorem gX9_find_X9_nameHarms : GoodIn wsX9_find (wsV RX9 77 RX9 yX9_nameHarms wsX9_nameHarms) := goodIn_app (goodIn_r _ [20, 21, 22, 19] rfl (by decide +kernel)) ggX9_find_X9_nameHarms
set_option maxRecDepth 100000 in
theorem dA255_cX9_find : kDec cX9_find [(89, .aload_n 0, 1), (90, .getfield 20, 3), (93, .invokevirtual 69, 3), (96, .ifCond .ne 6, 3), (102, .iload_n 3, 1), (103, .iload 5, 2), (105, .iload_n 3, 1), (106, .imul, 1), (107, .iadd, 1), (108, .iload 4, 2), (110, .iadd, 1), (111, .istore 6, 2), (113, .aload_n 0, 1), (114, .iload 6, 2), (116, .aload_n 0, 1), (117, .getfield 20, 3), (120, .invokevirtual 73, 3), (123, .aload_n 0, 1), (124, .iload 6, 2), (126, .iload 5, 2), (128, .iload 4, 2), (130, .iconst (-1), 1), (131, .invokevirtual 77, 3), (134, .iconst 0, 1)] = true := by decide +kernel
theorem dX9_find_89 : decode cX9_find 89 = .ok (.aload_n 0, 1) := kDec_at dA255_cX9_find 0 rfl
theorem dX9_find_90 : decode cX9_find 90 = .ok (.getfield 20, 3) := kDec_at dA255_cX9_find 1 rfl
theorem dX9_find_93 : decode cX9_find 93 = .ok (.invokevirtual 69, 3) := kDec_at dA255_cX9_find 2 rfl
theorem dX9_find_96 : decode cX9_find 96 = .ok (.ifCond .ne 6, 3) := kDec_at dA255_cX9_find 3 rfl
theorem dX9_find_102 : decode cX9_find 102 = .ok (.iload_n 3, 1) := kDec_at dA255_cX9_find 4 rfl
theorem dX9_find_103 : decode cX9_find 103 = .ok (.iload 5, 2) := kDec_at dA255_cX9_find 5 rfl
theorem dX9_find_105 : decode cX9_find 105 = .ok (.iload_n 3, 1) := kDec_at dA255_cX9_find 6 rfl
theorem dX9_find_106 : decode cX9_find 106 = .ok (.imul, 1) := kDec_at dA255_cX9_find 7 rfl
theorem dX9_find_107 : decode cX9_find 107 = .ok (.iadd, 1) := kDec_at dA255_cX9_find 8 rfl
theorem dX9_find_108 : decode cX9_find 108 = .ok (.iload 4, 2) := kDec_at dA255_cX9_find 9 rfl
theorem dX9_find_110 : decode cX9_find 110 = .ok (.iadd, 1) := kDec_at dA255_cX9_find 10 rfl
theorem dX9_find_111 : decode cX9_find 111 = .ok (.istore 6, 2) := kDec_at dA255_cX9_find 11 rfl
theorem dX9_find_113 : decode cX9_find 113 = .ok (.aload_n 0, 1) := kDec_at dA255_cX9_find 12 rfl
theorem dX9_find_114 : decode cX9_find 114 = .ok (.iload 6, 2) := kDec_at dA255_cX9_find 13 rfl
theorem dX9_find_116 : decode cX9_find 116 = .ok (.aload_n 0, 1) := kDec_at dA255_cX9_find 14 rfl
theorem dX9_find_117 : decode cX9_find 117 = .ok (.getfield 20, 3) := kDec_at dA255_cX9_find 15 rfl
theorem dX9_find_120 : decode cX9_find 120 = .ok (.invokevirtual 73, 3) := kDec_at dA255_cX9_find 16 rfl
theorem dX9_find_123 : decode cX9_find 123 = .ok (.aload_n 0, 1) := kDec_at dA255_cX9_find 17 rfl
theorem dX9_find_124 : decode cX9_find 124 = .ok (.iload 6, 2) := kDec_at dA255_cX9_find 18 rfl
theorem dX9_find_126 : decode cX9_find 126 = .ok (.iload 5, 2) := kDec_at dA255_cX9_find 19 rfl
theorem dX9_find_128 : decode cX9_find 128 = .ok (.iload 4, 2) := kDec_at dA255_cX9_find 20 rfl
theorem dX9_find_130 : decode cX9_find 130 = .ok (.iconst (-1), 1) := kDec_at dA255_cX9_find 21 rfl
theorem dX9_find_131 : decode cX9_find 131 = .ok (.invokevirtual 77, 3) := kDec_at dA255_cX9_find 22 rfl
theorem dX9_find_134 : decode cX9_find 134 = .ok (.iconst 0, 1) := kDec_at dA255_cX9_find 23 rfl
set_option maxRecDepth 100000 in
theorem dA256_cX9_find : kDec cX9_find [(135, .istore 7, 2), (137, .iload_n 1, 1), (138, .iconst 2, 1), (139, .if_icmp .le 77, 3), (216, .iinc 5 1, 3), (219, .goto (-151), 3), (142, .iload 7, 2), (144, .iload_n 3, 1), (145, .if_icmp .ge 71, 3), (148, .aload_n 0, 1), (149, .getfield 45, 3), (152, .iload 7, 2), (154, .aload_n 0, 1), (155, .getfield 20, 3), (158, .aload_n 0, 1), (159, .getfield 23, 3), (162, .invokevirtual 69, 3), (165, .ifCond .eq 45, 3), (210, .iinc 7 1, 3), (213, .goto (-76), 3), (168, .iload_n 3, 1), (169, .iload_n 3, 1), (170, .iload_n 3, 1), (171, .imul, 1)] = true := by decide +kernel
theorem dX9_find_135 : decode cX9_find 135 = .ok (.istore 7, 2) := kDec_at dA256_cX9_find 0 rfl
theorem dX9_find_137 : decode cX9_find 137 = .ok (.iload_n 1, 1) := kDec_at dA256_cX9_find 1 rfl
theorem dX9_find_138 : decode cX9_find 138 = .ok (.iconst 2, 1) := kDec_at dA256_cX9_find 2 rfl
theorem dX9_find_139 : decode cX9_find 139 = .ok (.if_icmp .le 77, 3) := kDec_at dA256_cX9_find 3 rfl
theorem dX9_find_216 : decode cX9_find 216 = .ok (.iinc 5 1, 3) := kDec_at dA256_cX9_find 4 rfl
theorem dX9_find_219 : decode cX9_find 219 = .ok (.goto (-151), 3) := kDec_at dA256_cX9_find 5 rfl
theorem dX9_find_142 : decode cX9_find 142 = .ok (.iload 7, 2) := kDec_at dA256_cX9_find 6 rfl
theorem dX9_find_144 : decode cX9_find 144 = .ok (.iload_n 3, 1) := kDec_at dA256_cX9_find 7 rfl
theorem dX9_find_145 : decode cX9_find 145 = .ok (.if_icmp .ge 71, 3) := kDec_at dA256_cX9_find 8 rfl
theorem dX9_find_148 : decode cX9_find 148 = .ok (.aload_n 0, 1) := kDec_at dA256_cX9_find 9 rfl
theorem dX9_find_149 : decode cX9_find 149 = .ok (.getfield 45, 3) := kDec_at dA256_cX9_find 10 rfl
theorem dX9_find_152 : decode cX9_find 152 = .ok (.iload 7, 2) := kDec_at dA256_cX9_find 11 rfl
theorem dX9_find_154 : decode cX9_find 154 = .ok (.aload_n 0, 1) := kDec_at dA256_cX9_find 12 rfl
theorem dX9_find_155 : decode cX9_find 155 = .ok (.getfield 20, 3) := kDec_at dA256_cX9_find 13 rfl
theorem dX9_find_158 : decode cX9_find 158 = .ok (.aload_n 0, 1) := kDec_at dA256_cX9_find 14 rfl
theorem dX9_find_159 : decode cX9_find 159 = .ok (.getfield 23, 3) := kDec_at dA256_cX9_find 15 rfl
theorem dX9_find_162 : decode cX9_find 162 = .ok (.invokevirtual 69, 3) := kDec_at dA256_cX9_find 16 rfl
theorem dX9_find_165 : decode cX9_find 165 = .ok (.ifCond .eq 45, 3) := kDec_at dA256_cX9_find 17 rfl
theorem dX9_find_210 : decode cX9_find 210 = .ok (.iinc 7 1, 3) := kDec_at dA256_cX9_find 18 rfl
theorem dX9_find_213 : decode cX9_find 213 = .ok (.goto (-76), 3) := kDec_at dA256_cX9_find 19 rfl
theorem dX9_find_168 : decode cX9_find 168 = .ok (.iload_n 3, 1) := kDec_at dA256_cX9_find 20 rfl
theorem dX9_find_169 : decode cX9_find 169 = .ok (.iload_n 3, 1) := kDec_at dA256_cX9_find 21 rfl
theorem dX9_find_170 : decode cX9_find 170 = .ok (.iload_n 3, 1) := kDec_at dA256_cX9_find 22 rfl
theorem dX9_find_171 : decode cX9_find 171 = .ok (.imul, 1) := kDec_at dA256_cX9_find 23 rfl
set_option maxRecDepth 100000 in
theorem dA257_cX9_find : kDec cX9_find [(172, .iadd, 1), (173, .iload 7, 2), (175, .iload_n 3, 1), (176, .imul, 1), (177, .iload 5, 2), (179, .iadd, 1), (180, .iload_n 3, 1), (181, .imul, 1), (182, .iadd, 1), (183, .iload 4, 2), (185, .iadd, 1), (186, .istore 8, 2), (188, .aload_n 0, 1), (189, .iload 8, 2), (191, .aload_n 0, 1), (192, .getfield 23, 3), (195, .invokevirtual 73, 3), (198, .aload_n 0, 1), (199, .iload 8, 2), (201, .iload 7, 2), (203, .iload 5, 2), (205, .iload 4, 2), (207, .invokevirtual 77, 3), (99, .goto 117, 3)] = true := by decide +kernel
theorem dX9_find_172 : decode cX9_find 172 = .ok (.iadd, 1) := kDec_at dA257_cX9_find 0 rfl
theorem dX9_find_173 : decode cX9_find 173 = .ok (.iload 7, 2) := kDec_at dA257_cX9_find 1 rfl
theorem dX9_find_175 : decode cX9_find 175 = .ok (.iload_n 3, 1) := kDec_at dA257_cX9_find 2 rfl
theorem dX9_find_176 : decode cX9_find 176 = .ok (.imul, 1) := kDec_at dA257_cX9_find 3 rfl
theorem dX9_find_177 : decode cX9_find 177 = .ok (.iload 5, 2) := kDec_at dA257_cX9_find 4 rfl
theorem dX9_find_179 : decode cX9_find 179 = .ok (.iadd, 1) := kDec_at dA257_cX9_find 5 rfl
theorem dX9_find_180 : decode cX9_find 180 = .ok (.iload_n 3, 1) := kDec_at dA257_cX9_find 6 rfl
theorem dX9_find_181 : decode cX9_find 181 = .ok (.imul, 1) := kDec_at dA257_cX9_find 7 rfl
theorem dX9_find_182 : decode cX9_find 182 = .ok (.iadd, 1) := kDec_at dA257_cX9_find 8 rfl
theorem dX9_find_183 : decode cX9_find 183 = .ok (.iload 4, 2) := kDec_at dA257_cX9_find 9 rfl
theorem dX9_find_185 : decode cX9_find 185 = .ok (.iadd, 1) := kDec_at dA257_cX9_find 10 rfl
theorem dX9_find_186 : decode cX9_find 186 = .ok (.istore 8, 2) := kDec_at dA257_cX9_find 11 rfl
theorem dX9_find_188 : decode cX9_find 188 = .ok (.aload_n 0, 1) := kDec_at dA257_cX9_find 12 rfl
theorem dX9_find_189 : decode cX9_find 189 = .ok (.iload 8, 2) := kDec_at dA257_cX9_find 13 rfl
theorem dX9_find_191 : decode cX9_find 191 = .ok (.aload_n 0, 1) := kDec_at dA257_cX9_find 14 rfl
theorem dX9_find_192 : decode cX9_find 192 = .ok (.getfield 23, 3) := kDec_at dA257_cX9_find 15 rfl
theorem dX9_find_195 : decode cX9_find 195 = .ok (.invokevirtual 73, 3) := kDec_at dA257_cX9_find 16 rfl
theorem dX9_find_198 : decode cX9_find 198 = .ok (.aload_n 0, 1) := kDec_at dA257_cX9_find 17 rfl
theorem dX9_find_199 : decode cX9_find 199 = .ok (.iload 8, 2) := kDec_at dA257_cX9_find 18 rfl
theorem dX9_find_201 : decode cX9_find 201 = .ok (.iload 7, 2) := kDec_at dA257_cX9_find 19 rfl
theorem dX9_find_203 : decode cX9_find 203 = .ok (.iload 5, 2) := kDec_at dA257_cX9_find 20 rfl
theorem dX9_find_205 : decode cX9_find 205 = .ok (.iload 4, 2) := kDec_at dA257_cX9_find 21 rfl
theorem dX9_find_207 : decode cX9_find 207 = .ok (.invokevirtual 77, 3) := kDec_at dA257_cX9_find 22 rfl
theorem dX9_find_99 : decode cX9_find 99 = .ok (.goto 117, 3) := kDec_at dA257_cX9_find 23 rfl
set_option maxRecDepth 100000 in
theorem dA258_cX9_find : kDec cX9_find [(42, .goto 180, 3)] = true := by decide +kernel
theorem dX9_find_42 : decode cX9_find 42 = .ok (.goto 180, 3) := kDec_at dA258_cX9_find 0 rfl

end

/-! 59r.rows -/
section
theorem rp_max {z a b c : Nat} (hz : z ≤ 6) (ha : a < z) (hb : b < z) (hc : c < z) : z + z * z + (c * z + b) * z + a ≤ 257 := by
  rcases rz7 hz with e | e | e | e | e | e | e <;> subst e <;> omega

set_option maxHeartbeats 40000000 in
set_option maxRecDepth 100000 in
theorem f_X9_find (l : Launch) (dC : Nat → ClassId) (dI : Nat → Nat → Nat) (cI cS : ClassId) (sz : Nat) (oR : Nat) (nx : Nat) (oH : Nat) (oK : Nat) (n1 : Nat) (n2 : Nat) (n3 : Nat) (r1 : Nat) (r2 : Nat) (r3 : Nat) (r4 : Nat) (r5 : Nat) (r6 : Nat) (a1 : Nat) (a2 : Nat) (a3 : Nat) (oP : Nat) (h1 : Nat) (h2 : Nat) (oC : Nat) (nB : Nat) (aB : Nat) (o4 : Nat) (o5 : Nat) (a41 : Nat) (a42 : Nat) (a43 : Nat) (a51 : Nat) (a52 : Nat) (a53 : Nat) (k1 : Nat) (k2 : Nat) (ax : Nat) (lR : Int32) (fR1 : Nat → Int32) (fR2 : Nat → Int32) (fR3 : Nat → Int32) (l1 : Int32) (f1 : Nat → Int32) (l2 : Int32) (f2 : Nat → Int32) (l3 : Int32) (f3 : Nat → Int32) (lH : Int32) (fH1 : Nat → Int32) (fH2 : Nat → Int32) (ft : Int32) (lB : Int32) (fB : Nat → Int32) (l4 : Int32) (f41 : Nat → Int32) (f42 : Nat → Int32) (f43 : Nat → Int32) (l5 : Int32) (f51 : Nat → Int32) (f52 : Nat → Int32) (f53 : Nat → Int32) (lK : Int32) (fK1 : Nat → Int32) (fK2 : Nat → Int32) (lx : Int32) (fx : Nat → Int32) (n : Int32) (g_lR : 0 ≤ lR.toInt ∧ lR.toInt ≤ 258) (g_l1 : 0 ≤ l1.toInt ∧ l1.toInt ≤ 300) (g_l2 : 0 ≤ l2.toInt ∧ l2.toInt ≤ 300) (g_l3 : 0 ≤ l3.toInt ∧ l3.toInt ≤ 300) (g_lH : 0 ≤ lH.toInt ∧ lH.toInt ≤ 6) (g_lB : 0 ≤ lB.toInt ∧ lB.toInt ≤ 2400) (g_lK : 0 ≤ lK.toInt ∧ lK.toInt ≤ 300) (g_lx : 0 ≤ lx.toInt ∧ lx.toInt ≤ 300) (g_n : 1 ≤ n.toInt ∧ n.toInt ≤ 3) (hlt : prg lx.toInt 0 65535 fx) (hT4 : HT 512 511 hsT f42 f43) (ho4 : (occ f43 512 : Int) ≤ 511) (hT5 : HT 512 511 hsT f52 f53) (ho5 : (occ f53 512 : Int) ≤ 511) (hL4 : prg 256 (-1) 65535 f41) (hL5 : prg 256 (-1) 65535 f51) (hBr : ∀ cd : Int32, okB (Bc cd f42 f43 f52 f53)) (hT : HT 1024 1023 hsK fK1 fK2) (ho : (occ fK2 1024 : Int) ≤ lK.toInt) (hV : prg 1024 (-1) 200 fK2) : kMv l yX9_find wsX9_find ({ frames := 6, cells := 0, slots := 0, locals := 147 } : Room) [.ref oR, .int n, .ref nx] sz (dC, dI) vwCl [(cI, .int), (cS, .short)] [(oR, .inr (9, [.ref oH, .ref oK, .ref n1, .ref n2, .ref n3, .ref r1, .ref r2, .ref r3, .ref r4, .ref r5, .ref r6, .int lR])), (r1, .inl (cI, 258, .inl fR1)), (r2, .inl (cI, 258, .inl fR2)), (r3, .inl (cI, 774, .inl fR3)), (n1, .inr (5, [.ref a1, .int l1])), (a1, .inl (cI, 300, .inl f1)), (n2, .inr (5, [.ref a2, .int l2])), (a2, .inl (cI, 300, .inl f2)), (n3, .inr (5, [.ref a3, .int l3])), (a3, .inl (cI, 300, .inl f3)), (oH, .inr (4, [.ref oP, .ref h1, .ref h2, .int lH])), (h1, .inl (cI, 6, .inl fH1)), (h2, .inl (cI, 6, .inl fH2)), (oP, .inr (7, [.ref oC, .ref nB, .int ft])), (nB, .inr (5, [.ref aB, .int lB])), (aB, .inl (cI, 2400, .inl fB)), (oC, .inr (2, [.ref o4, .ref o5])), (o4, .inr (10, [.ref a41, .ref a42, .ref a43, .int l4])), (a41, .inl (cI, 256, .inl f41)), (a42, .inl (cI, 512, .inl f42)), (a43, .inl (cI, 512, .inl f43)), (o5, .inr (10, [.ref a51, .ref a52, .ref a53, .int l5])), (a51, .inl (cI, 256, .inl f51)), (a52, .inl (cI, 512, .inl f52)), (a53, .inl (cI, 512, .inl f53)), (oK, .inr (3, [.ref k1, .ref k2, .int lK])), (k1, .inl (cI, 1024, .inl fK1)), (k2, .inl (cI, 1024, .inl fK2)), (nx, .inr (5, [.ref ax, .int lx])), (ax, .inl (cI, 300, .inl fx))] (va_Nw (.methodLinkNest RX2 52 yX11_isLetter "TextMender")) 0 0 (fun (A : Nat → Prop) (hh9 : Heap) => ∀ PZ9 : Prop, (∀ (ft' : Int32) (lB' : Int32) (fB' : Nat → Int32) (l1' : Int32) (f1' : Nat → Int32) (l2' : Int32) (f2' : Nat → Int32) (l3' : Int32) (f3' : Nat → Int32) (fR1' : Nat → Int32) (fR2' : Nat → Int32) (fR3' : Nat → Int32), kPD (dC, dI) vwCl A [(oR, .inr (9, [.ref oH, .ref oK, .ref n1, .ref n2, .ref n3, .ref r1, .ref r2, .ref r3, .ref r4, .ref r5, .ref r6, .int lR])), (r1, .inl (cI, 258, .inl fR1')), (r2, .inl (cI, 258, .inl fR2')), (r3, .inl (cI, 774, .inl fR3')), (n1, .inr (5, [.ref a1, .int l1'])), (a1, .inl (cI, 300, .inl f1')), (n2, .inr (5, [.ref a2, .int l2'])), (a2, .inl (cI, 300, .inl f2')), (n3, .inr (5, [.ref a3, .int l3'])), (a3, .inl (cI, 300, .inl f3')), (oH, .inr (4, [.ref oP, .ref h1, .ref h2, .int lH])), (h1, .inl (cI, 6, .inl fH1)), (h2, .inl (cI, 6, .inl fH2)), (oP, .inr (7, [.ref oC, .ref nB, .int ft'])), (nB, .inr (5, [.ref aB, .int lB'])), (aB, .inl (cI, 2400, .inl fB')), (oC, .inr (2, [.ref o4, .ref o5])), (o4, .inr (10, [.ref a41, .ref a42, .ref a43, .int l4])), (a41, .inl (cI, 256, .inl f41)), (a42, .inl (cI, 512, .inl f42)), (a43, .inl (cI, 512, .inl f43)), (o5, .inr (10, [.ref a51, .ref a52, .ref a53, .int l5])), (a51, .inl (cI, 256, .inl f51)), (a52, .inl (cI, 512, .inl f52)), (a53, .inl (cI, 512, .inl f53)), (oK, .inr (3, [.ref k1, .ref k2, .int lK])), (k1, .inl (cI, 1024, .inl fK1)), (k2, .inl (cI, 1024, .inl fK2)), (nx, .inr (5, [.ref ax, .int lx])), (ax, .inl (cI, 300, .inl fx))] hh9 → (0 ≤ lB'.toInt ∧ lB'.toInt ≤ 2400) → (0 ≤ l1'.toInt ∧ l1'.toInt ≤ 300) → (0 ≤ l2'.toInt ∧ l2'.toInt ≤ 300) → (0 ≤ l3'.toInt ∧ l3'.toInt ≤ 300) → (rGE (UC fH1 fH2 f41 f42 f43 f51 f52 f53) (tcC fK1 fK2) lH.toNatClampNeg lx.toInt.toNat fx n.toInt fR1' fR2' fR3') → PZ9) → PZ9) := by
  refine kMv_of (cc := cX9_find) (maxL := 9) (ret := none) (lv := [(0, .ref oR), (1, .int n), (2, .ref nx)]) (by decide +kernel) rfl rfl (Nat.le_of_ble_eq_true rfl) ?_
  intro p e s m below meth c A QQ ls hx hb hr hts hml hown hlocks hA hQQ hK hX hP hD hS hl
  have hown : s.vm.findClass RX9 = some m.cls := hown
  have hcf := k_cf hx hb hml hown hts
  have hN52 := hX
  have in_X9 : ∀ w ∈ wsX90, w ∈ wsX9_find := fun _ h => List.mem_cons_of_mem _ (List.mem_append_left _ (List.mem_append_left _ (List.mem_append_left _ (List.mem_append_left _ (List.mem_append_left _ (List.mem_append_left _ (List.mem_append_left _ (List.mem_append_left _ (List.mem_append_left _ (List.mem_append_left _ (List.mem_append_left _ (List.mem_append_right _ (h)))))))))))))
  replace g_lR := hid g_lR
  replace g_l1 := hid g_l1
  replace g_l2 := hid g_l2
  replace g_l3 := hid g_l3
  replace g_lB := hid g_lB
  have hU : okU (UC fH1 fH2 f41 f42 f43 f51 f52 f53) := okU_C hBr hL4 hL5
  have cz := v_clamp (x := lH) (by omega)
  refine lv_aload_n hx hb dX9_find_0 rfl (lv_at hl 0 rfl) ?_
  refine va_get (D := (dC, dI)) (ci := 9) (v := .ref r1) (C := RX9) (T := TX9) (N := 12) hx hb hts in_X9 hown hK hP 0 rfl rfl 5 (Nat.le_of_ble_eq_true rfl) (hts (.fieldLink RX9 26 "TextMender$Rows" "foundCost" "[I") (List.mem_of_getElem? (i := 1) rfl)) (fun _ h9 => h9) rfl dX9_find_1 ?_
  refine lv_iconst (v := (-1)) hx hb dX9_find_4 (by decide) ?_
  refine kS_v (rest := []) hcf (m_J7_fill_53178 l dC dI cI cS s.heap.size r1 258 fR1 (-1) (by omega)) kc_J7_fill_53178 gX9_find_J7_fill_53178 rfl rfl ⟨Nat.le_of_ble_eq_true rfl, Nat.le_of_ble_eq_true rfl⟩ kX_t hK hP hD hS hA (posT mk_27 0) (posF mk_27 0) (kC_of mk_27 rfl rfl) (by decide +kernel) rfl hl rfl (Nat.le_of_ble_eq_true rfl) dX9_find_5 ⟨Nat.le_of_ble_eq_true rfl, Nat.le_of_ble_eq_true rfl⟩ (fun H locs hB hJ hSn => ?_)
  refine hB _ (fun f_1 hPD9 hf1_0 => ?_)
  clear hB
  obtain ⟨hPn, hDn⟩ := kJi (m := mk_27) hJ rfl hPD9.1 hPD9.2 (wn := [(oR, .inr (9, [.ref oH, .ref oK, .ref n1, .ref n2, .ref n3, .ref r1, .ref r2, .ref r3, .ref r4, .ref r5, .ref r6, .int lR])), (r1, .inl (cI, 258, .inl f_1)), (r2, .inl (cI, 258, .inl fR2)), (r3, .inl (cI, 774, .inl fR3)), (n1, .inr (5, [.ref a1, .int l1])), (a1, .inl (cI, 300, .inl f1)), (n2, .inr (5, [.ref a2, .int l2])), (a2, .inl (cI, 300, .inl f2)), (n3, .inr (5, [.ref a3, .int l3])), (a3, .inl (cI, 300, .inl f3)), (oH, .inr (4, [.ref oP, .ref h1, .ref h2, .int lH])), (h1, .inl (cI, 6, .inl fH1)), (h2, .inl (cI, 6, .inl fH2)), (oP, .inr (7, [.ref oC, .ref nB, .int ft])), (nB, .inr (5, [.ref aB, .int lB])), (aB, .inl (cI, 2400, .inl fB)), (oC, .inr (2, [.ref o4, .ref o5])), (o4, .inr (10, [.ref a41, .ref a42, .ref a43, .int l4])), (a41, .inl (cI, 256, .inl f41)), (a42, .inl (cI, 512, .inl f42)), (a43, .inl (cI, 512, .inl f43)), (o5, .inr (10, [.ref a51, .ref a52, .ref a53, .int l5])), (a51, .inl (cI, 256, .inl f51)), (a52, .inl (cI, 512, .inl f52)), (a53, .inl (cI, 512, .inl f53)), (oK, .inr (3, [.ref k1, .ref k2, .int lK])), (k1, .inl (cI, 1024, .inl fK1)), (k2, .inl (cI, 1024, .inl fK2)), (nx, .inr (5, [.ref ax, .int lx])), (ax, .inl (cI, 300, .inl fx))]) rfl
  clear hP hD hS hJ hPD9
  have hP := hPn
  have hD := hDn
  have hS := hSn
  clear hPn hDn hSn
  refine lv_aload_n hx hb dX9_find_8 rfl (lv_at hl 0 rfl) ?_
  refine va_get (D := (dC, dI)) (ci := 9) (v := .ref oH) (C := RX9) (T := TX9) (N := 12) hx hb hts in_X9 hown hK hP 0 rfl rfl 0 (Nat.le_of_ble_eq_true rfl) (hts (.fieldLink RX9 45 "TextMender$Rows" "harms" "LTextMender$Harms;") (List.mem_of_getElem? (i := 2) rfl)) (fun _ h9 => h9) rfl dX9_find_9 ?_
  refine kV_i (rest := []) (q0 := 0) (ci := 4) hcf (m_X4_length l dC dI cI cS H.size oH oP h1 h2 lH (g_lH)) kc_X4_length gX9_find_X4_length rfl rfl rfl ⟨Nat.le_of_ble_eq_true rfl, Nat.le_of_ble_eq_true rfl⟩ kX_t hK hP hD hS hA (posT mk_28 0) (posF mk_28 0) (kC_of mk_28 rfl rfl) (by decide +kernel) rfl rfl rfl hl rfl (Nat.le_of_ble_eq_true rfl) dX9_find_12 ⟨Nat.le_of_ble_eq_true rfl, Nat.le_of_ble_eq_true rfl⟩ (fun r_2 H locs hB hJ hSn => ?_)
  refine hB _ (fun hPD9 hf2_0 => ?_)
  clear hB
  obtain ⟨hPn, hDn⟩ := kJi (m := mk_28) hJ rfl hPD9.1 hPD9.2 (wn := [(oR, .inr (9, [.ref oH, .ref oK, .ref n1, .ref n2, .ref n3, .ref r1, .ref r2, .ref r3, .ref r4, .ref r5, .ref r6, .int lR])), (r1, .inl (cI, 258, .inl f_1)), (r2, .inl (cI, 258, .inl fR2)), (r3, .inl (cI, 774, .inl fR3)), (n1, .inr (5, [.ref a1, .int l1])), (a1, .inl (cI, 300, .inl f1)), (n2, .inr (5, [.ref a2, .int l2])), (a2, .inl (cI, 300, .inl f2)), (n3, .inr (5, [.ref a3, .int l3])), (a3, .inl (cI, 300, .inl f3)), (oH, .inr (4, [.ref oP, .ref h1, .ref h2, .int lH])), (h1, .inl (cI, 6, .inl fH1)), (h2, .inl (cI, 6, .inl fH2)), (oP, .inr (7, [.ref oC, .ref nB, .int ft])), (nB, .inr (5, [.ref aB, .int lB])), (aB, .inl (cI, 2400, .inl fB)), (oC, .inr (2, [.ref o4, .ref o5])), (o4, .inr (10, [.ref a41, .ref a42, .ref a43, .int l4])), (a41, .inl (cI, 256, .inl f41)), (a42, .inl (cI, 512, .inl f42)), (a43, .inl (cI, 512, .inl f43)), (o5, .inr (10, [.ref a51, .ref a52, .ref a53, .int l5])), (a51, .inl (cI, 256, .inl f51)), (a52, .inl (cI, 512, .inl f52)), (a53, .inl (cI, 512, .inl f53)), (oK, .inr (3, [.ref k1, .ref k2, .int lK])), (k1, .inl (cI, 1024, .inl fK1)), (k2, .inl (cI, 1024, .inl fK2)), (nx, .inr (5, [.ref ax, .int lx])), (ax, .inl (cI, 300, .inl fx))]) rfl
  clear hP hD hS hJ hPD9
  have hP := hPn
  have hD := hDn
  have hS := hSn
  clear hPn hDn hSn
  rw [hf2_0]
  refine lv_istore_n (lv' := [(3, .int lH), (0, .ref oR), (1, .int n), (2, .ref nx)]) hx hb dX9_find_15 rfl hl (by decide) rfl (fun ls hl => ?_)
  refine lv_iconst (v := 0) hx hb dX9_find_16 (by decide) ?_
  refine lv_istore (lv' := [(4, .int 0), (3, .int lH), (0, .ref oR), (1, .int n), (2, .ref nx)]) hx hb dX9_find_17 hl (by decide) rfl (fun ls hl => ?_)
  have LOOP_19 : ∀ (k_19 : Nat) (la : Int32) (fta : Int32) (lBa : Int32) (loa : Int32) (lta : Int32) (lha : Int32) (fBa : Nat → Int32) (foa : Nat → Int32) (ft_a : Nat → Int32) (fha : Nat → Int32) (fxa : Nat → Int32) (fya : Nat → Int32) (fza : Nat → Int32) (H : Heap) (locs : List Loc) (ls : Array Slot), MSd (6 - la.toInt : Int) k_19 → (0 ≤ la.toInt ∧ la.toInt ≤ 6) → (0 ≤ lBa.toInt ∧ lBa.toInt ≤ 2400) → (0 ≤ loa.toInt ∧ loa.toInt ≤ 300) → (0 ≤ lta.toInt ∧ lta.toInt ≤ 300) → (0 ≤ lha.toInt ∧ lha.toInt ≤ 300) → (la.toInt ≤ lH.toInt) → (rG1 (UC fH1 fH2 f41 f42 f43 f51 f52 f53) (tcC fK1 fK2) lH.toNatClampNeg lx.toInt.toNat fx n.toInt (la.toInt) (la.toInt) (0) (0) (0) fxa fya fza) → va_P (dC, dI) vwCl [(oR, .inr (9, [.ref oH, .ref oK, .ref n1, .ref n2, .ref n3, .ref r1, .ref r2, .ref r3, .ref r4, .ref r5, .ref r6, .int lR])), (r1, .inl (cI, 258, .inl fxa)), (r2, .inl (cI, 258, .inl fya)), (r3, .inl (cI, 774, .inl fza)), (n1, .inr (5, [.ref a1, .int loa])), (a1, .inl (cI, 300, .inl foa)), (n2, .inr (5, [.ref a2, .int lta])), (a2, .inl (cI, 300, .inl ft_a)), (n3, .inr (5, [.ref a3, .int lha])), (a3, .inl (cI, 300, .inl fha)), (oH, .inr (4, [.ref oP, .ref h1, .ref h2, .int lH])), (h1, .inl (cI, 6, .inl fH1)), (h2, .inl (cI, 6, .inl fH2)), (oP, .inr (7, [.ref oC, .ref nB, .int fta])), (nB, .inr (5, [.ref aB, .int lBa])), (aB, .inl (cI, 2400, .inl fBa)), (oC, .inr (2, [.ref o4, .ref o5])), (o4, .inr (10, [.ref a41, .ref a42, .ref a43, .int l4])), (a41, .inl (cI, 256, .inl f41)), (a42, .inl (cI, 512, .inl f42)), (a43, .inl (cI, 512, .inl f43)), (o5, .inr (10, [.ref a51, .ref a52, .ref a53, .int l5])), (a51, .inl (cI, 256, .inl f51)), (a52, .inl (cI, 512, .inl f52)), (a53, .inl (cI, 512, .inl f53)), (oK, .inr (3, [.ref k1, .ref k2, .int lK])), (k1, .inl (cI, 1024, .inl fK1)), (k2, .inl (cI, 1024, .inl fK2)), (nx, .inr (5, [.ref ax, .int lx])), (ax, .inl (cI, 300, .inl fx))] H → va_D A [(oR, .inr (9, [.ref oH, .ref oK, .ref n1, .ref n2, .ref n3, .ref r1, .ref r2, .ref r3, .ref r4, .ref r5, .ref r6, .int lR])), (r1, .inl (cI, 258, .inl fxa)), (r2, .inl (cI, 258, .inl fya)), (r3, .inl (cI, 774, .inl fza)), (n1, .inr (5, [.ref a1, .int loa])), (a1, .inl (cI, 300, .inl foa)), (n2, .inr (5, [.ref a2, .int lta])), (a2, .inl (cI, 300, .inl ft_a)), (n3, .inr (5, [.ref a3, .int lha])), (a3, .inl (cI, 300, .inl fha)), (oH, .inr (4, [.ref oP, .ref h1, .ref h2, .int lH])), (h1, .inl (cI, 6, .inl fH1)), (h2, .inl (cI, 6, .inl fH2)), (oP, .inr (7, [.ref oC, .ref nB, .int fta])), (nB, .inr (5, [.ref aB, .int lBa])), (aB, .inl (cI, 2400, .inl fBa)), (oC, .inr (2, [.ref o4, .ref o5])), (o4, .inr (10, [.ref a41, .ref a42, .ref a43, .int l4])), (a41, .inl (cI, 256, .inl f41)), (a42, .inl (cI, 512, .inl f42)), (a43, .inl (cI, 512, .inl f43)), (o5, .inr (10, [.ref a51, .ref a52, .ref a53, .int l5])), (a51, .inl (cI, 256, .inl f51)), (a52, .inl (cI, 512, .inl f52)), (a53, .inl (cI, 512, .inl f53)), (oK, .inr (3, [.ref k1, .ref k2, .int lK])), (k1, .inl (cI, 1024, .inl fK1)), (k2, .inl (cI, 1024, .inl fK2)), (nx, .inr (5, [.ref ax, .int lx])), (ax, .inl (cI, 300, .inl fx))] → va_S A s.heap H locs → lv_has ls 9 [(4, .int la), (3, .int lH), (0, .ref oR), (1, .int n), (2, .ref nx)] → W p l e (headSpec wsX9_find ({ frames := 6, cells := 0, slots := 0, locals := 147 } : Room)).room s m ([.ref oR, .int n, .ref nx] : List Value).toArray below meth c H locs 0 0 (MQ below QQ ([.ref oR, .int n, .ref nx] : List Value).toArray s 0 0 A) (F0 m 19 ls []) := by
    clear hP hD hS hl
    try (clear hf1_0)
    intro k_19
    induction k_19 with
    | zero =>
      intro la fta lBa loa lta lha fBa foa ft_a fha fxa fya fza H locs ls hm_19 g_la g_lBa g_loa g_lta g_lha hlz hG hP hD hS hl
      exact ms_0 hm_19
    | succ k_19 ih_19 =>
      intro la fta lBa loa lta lha fBa foa ft_a fha fxa fya fza H locs ls hm_19 g_la g_lBa g_loa g_lta g_lha hlz hG hP hD hS hl
      refine lv_iload hx hb dX9_find_19 (lv_at hl 0 rfl) ?_
      refine lv_iload_n hx hb dX9_find_21 rfl (lv_at hl 1 rfl) ?_
      refine lv_icmp_ge (tgt := 228) hx hb dX9_find_22 (by decide) (fun c_3 => ?_) (fun c_3 => ?_)
      · have tc_3 : lH.toInt ≤ la.toInt := v_le c_3
        exact kl_v hQQ hx hb hr hlocks hS dX9_find_228 (fun PZ9 kZ9 => kZ9 fta lBa fBa loa foa lta ft_a lha fha fxa fya fza (⟨hP, hD⟩) (g_lBa) (g_loa) (g_lta) (g_lha) (rG1_GE hG (by omega) (by omega) (by omega)))
      · have tc_3 : la.toInt < lH.toInt := v_nle c_3
        have cla := v_clamp (x := la) (by omega)
        refine lv_aload_n hx hb dX9_find_25 rfl (lv_at hl 2 rfl) ?_
        refine va_get (D := (dC, dI)) (ci := 9) (v := .ref oH) (C := RX9) (T := TX9) (N := 12) hx hb hts in_X9 hown hK hP 0 rfl rfl 0 (Nat.le_of_ble_eq_true rfl) (hts (.fieldLink RX9 45 "TextMender$Rows" "harms" "LTextMender$Harms;") (List.mem_of_getElem? (i := 2) rfl)) (fun _ h9 => h9) rfl dX9_find_26 ?_
        refine lv_iload hx hb dX9_find_29 (lv_at hl 0 rfl) ?_
        refine lv_aload_n hx hb dX9_find_31 rfl (lv_at hl 4 rfl) ?_
        refine lv_aload_n hx hb dX9_find_32 rfl (lv_at hl 2 rfl) ?_
        refine va_get (D := (dC, dI)) (ci := 9) (v := .ref n1) (C := RX9) (T := TX9) (N := 12) hx hb hts in_X9 hown hK hP 0 rfl rfl 2 (Nat.le_of_ble_eq_true rfl) (hts (.fieldLink RX9 14 "TextMender$Rows" "one" "LTextMender$Numbers;") (List.mem_of_getElem? (i := 3) rfl)) (fun _ h9 => h9) rfl dX9_find_33 ?_
        refine kV_i (rest := []) (q0 := 0) (ci := 4) hcf (f_X4_takeOff l dC dI cI cS H.size oH nx n1 oP h1 h2 oC nB aB ax a1 o4 o5 a41 a42 a43 a51 a52 a53 lH fH1 fH2 fta lBa fBa lx fx loa foa l4 f41 f42 f43 l5 f51 f52 f53 la (g_lH) (g_lBa) (g_lx) (g_loa) (by omega) (by omega) (hlt) (hT4) (ho4) (hT5) (ho5) (hL4) (hL5) (hBr)) kc_X4_takeOff gX9_find_X4_takeOff rfl rfl rfl ⟨Nat.le_of_ble_eq_true rfl, Nat.le_of_ble_eq_true rfl⟩ (kX_1 hN52) hK hP hD hS hA ([2, 3, 4, 5, 6, 7, 17, 18, 0, 1, 8, 9, 10, 11, 12, 13, 14, 15, 16].filterMap (fun j => (posT mk_29 0)[j]?)) (posF mk_29 0) (kCp (ws := [(n1, .inr (5, [.ref a1, .int loa])), (a1, .inl (cI, 300, .inl foa)), (oH, .inr (4, [.ref oP, .ref h1, .ref h2, .int lH])), (h1, .inl (cI, 6, .inl fH1)), (h2, .inl (cI, 6, .inl fH2)), (oP, .inr (7, [.ref oC, .ref nB, .int fta])), (nB, .inr (5, [.ref aB, .int lBa])), (aB, .inl (cI, 2400, .inl fBa)), (oC, .inr (2, [.ref o4, .ref o5])), (o4, .inr (10, [.ref a41, .ref a42, .ref a43, .int l4])), (a41, .inl (cI, 256, .inl f41)), (a42, .inl (cI, 512, .inl f42)), (a43, .inl (cI, 512, .inl f43)), (o5, .inr (10, [.ref a51, .ref a52, .ref a53, .int l5])), (a51, .inl (cI, 256, .inl f51)), (a52, .inl (cI, 512, .inl f52)), (a53, .inl (cI, 512, .inl f53)), (nx, .inr (5, [.ref ax, .int lx])), (ax, .inl (cI, 300, .inl fx))]) (kC_of mk_29 rfl rfl) rfl) (by decide +kernel) rfl rfl rfl hl rfl (Nat.le_of_ble_eq_true rfl) dX9_find_36 ⟨Nat.le_of_ble_eq_true rfl, Nat.le_of_ble_eq_true rfl⟩ (fun r_4 H locs hB hJ hSn => ?_)
        refine hB _ (fun ft_4 lB_4 fB_4 ld_4 fd_4 hPD9 hf4_0 hf4_1 hf4_2 hf4_3 => ?_)
        clear hB
        obtain ⟨hPn, hDn⟩ := kJm (m := mk_29) hJ rfl hPD9.1 hPD9.2 [8, 9, 0, 1, 2, 3, 4, 5, 10, 11, 12, 13, 14, 15, 16, 17, 18, 6, 7] (by decide +kernel) (ws := [(n1, .inr (5, [.ref a1, .int ld_4])), (a1, .inl (cI, 300, .inl fd_4)), (oH, .inr (4, [.ref oP, .ref h1, .ref h2, .int lH])), (h1, .inl (cI, 6, .inl fH1)), (h2, .inl (cI, 6, .inl fH2)), (oP, .inr (7, [.ref oC, .ref nB, .int ft_4])), (nB, .inr (5, [.ref aB, .int lB_4])), (aB, .inl (cI, 2400, .inl fB_4)), (oC, .inr (2, [.ref o4, .ref o5])), (o4, .inr (10, [.ref a41, .ref a42, .ref a43, .int l4])), (a41, .inl (cI, 256, .inl f41)), (a42, .inl (cI, 512, .inl f42)), (a43, .inl (cI, 512, .inl f43)), (o5, .inr (10, [.ref a51, .ref a52, .ref a53, .int l5])), (a51, .inl (cI, 256, .inl f51)), (a52, .inl (cI, 512, .inl f52)), (a53, .inl (cI, 512, .inl f53)), (nx, .inr (5, [.ref ax, .int lx])), (ax, .inl (cI, 300, .inl fx))]) rfl (wn := [(oR, .inr (9, [.ref oH, .ref oK, .ref n1, .ref n2, .ref n3, .ref r1, .ref r2, .ref r3, .ref r4, .ref r5, .ref r6, .int lR])), (r1, .inl (cI, 258, .inl fxa)), (r2, .inl (cI, 258, .inl fya)), (r3, .inl (cI, 774, .inl fza)), (n1, .inr (5, [.ref a1, .int ld_4])), (a1, .inl (cI, 300, .inl fd_4)), (n2, .inr (5, [.ref a2, .int lta])), (a2, .inl (cI, 300, .inl ft_a)), (n3, .inr (5, [.ref a3, .int lha])), (a3, .inl (cI, 300, .inl fha)), (oH, .inr (4, [.ref oP, .ref h1, .ref h2, .int lH])), (h1, .inl (cI, 6, .inl fH1)), (h2, .inl (cI, 6, .inl fH2)), (oP, .inr (7, [.ref oC, .ref nB, .int ft_4])), (nB, .inr (5, [.ref aB, .int lB_4])), (aB, .inl (cI, 2400, .inl fB_4)), (oC, .inr (2, [.ref o4, .ref o5])), (o4, .inr (10, [.ref a41, .ref a42, .ref a43, .int l4])), (a41, .inl (cI, 256, .inl f41)), (a42, .inl (cI, 512, .inl f42)), (a43, .inl (cI, 512, .inl f43)), (o5, .inr (10, [.ref a51, .ref a52, .ref a53, .int l5])), (a51, .inl (cI, 256, .inl f51)), (a52, .inl (cI, 512, .inl f52)), (a53, .inl (cI, 512, .inl f53)), (oK, .inr (3, [.ref k1, .ref k2, .int lK])), (k1, .inl (cI, 1024, .inl fK1)), (k2, .inl (cI, 1024, .inl fK2)), (nx, .inr (5, [.ref ax, .int lx])), (ax, .inl (cI, 300, .inl fx))]) rfl
        clear hP hD hS hJ hPD9
        have hP := hPn
        have hD := hDn
        have hS := hSn
        clear hPn hDn hSn
        refine lv_if_ne (tgt := 45) hx hb dX9_find_39 (by decide) (fun c_5 => ?_) (fun c_5 => ?_)
        · have tc_5 : ¬ r_4.toInt = 0 := v_ne c_5
          have hUa := to_1n hf4_3 (by omega)
          have hpa := to_p hU hf4_3 (by omega) hlt
          refine lv_aload_n hx hb dX9_find_45 rfl (lv_at hl 2 rfl) ?_
          refine lv_iload hx hb dX9_find_46 (lv_at hl 0 rfl) ?_
          refine lv_aload_n hx hb dX9_find_48 rfl (lv_at hl 2 rfl) ?_
          refine va_get (D := (dC, dI)) (ci := 9) (v := .ref n1) (C := RX9) (T := TX9) (N := 12) hx hb hts in_X9 hown hK hP 0 rfl rfl 2 (Nat.le_of_ble_eq_true rfl) (hts (.fieldLink RX9 14 "TextMender$Rows" "one" "LTextMender$Numbers;") (List.mem_of_getElem? (i := 3) rfl)) (fun _ h9 => h9) rfl dX9_find_49 ?_
          refine kV_v (rest := []) (q0 := 0) (ci := 9) hcf (f_X9_note l dC dI cI cS H.size oR n1 oH oK n1 n2 n3 r1 r2 r3 r4 r5 r6 k1 k2 a1 lR fxa fya lK fK1 fK2 ld_4 fd_4 la (g_lR) (g_lK) (hf4_1) (v_rr g_la (by decide) (by decide)) (hT) (ho) (hV) (hpa)) kc_X9_note gX9_find_X9_note rfl rfl rfl ⟨Nat.le_of_ble_eq_true rfl, Nat.le_of_ble_eq_true rfl⟩ kX_t hK hP hD hS hA ([0, 1, 2, 5, 6, 7, 3, 4].filterMap (fun j => (posT mk_30 0)[j]?)) (posF mk_30 0) (kCp (ws := [(oR, .inr (9, [.ref oH, .ref oK, .ref n1, .ref n2, .ref n3, .ref r1, .ref r2, .ref r3, .ref r4, .ref r5, .ref r6, .int lR])), (r1, .inl (cI, 258, .inl fxa)), (r2, .inl (cI, 258, .inl fya)), (n1, .inr (5, [.ref a1, .int ld_4])), (a1, .inl (cI, 300, .inl fd_4)), (oK, .inr (3, [.ref k1, .ref k2, .int lK])), (k1, .inl (cI, 1024, .inl fK1)), (k2, .inl (cI, 1024, .inl fK2))]) (kC_of mk_30 rfl rfl) rfl) (by decide +kernel) rfl rfl rfl hl rfl (Nat.le_of_ble_eq_true rfl) dX9_find_52 ⟨Nat.le_of_ble_eq_true rfl, Nat.le_of_ble_eq_true rfl⟩ (fun H locs hB hJ hSn => ?_)
          refine hB _ (fun fR1_6 fR2_6 hPD9 hf6_0 => ?_)
          clear hB
          obtain ⟨hPn, hDn⟩ := kJm (m := mk_30) hJ rfl hPD9.1 hPD9.2 [0, 1, 2, 6, 7, 3, 4, 5] (by decide +kernel) (ws := [(oR, .inr (9, [.ref oH, .ref oK, .ref n1, .ref n2, .ref n3, .ref r1, .ref r2, .ref r3, .ref r4, .ref r5, .ref r6, .int lR])), (r1, .inl (cI, 258, .inl fR1_6)), (r2, .inl (cI, 258, .inl fR2_6)), (n1, .inr (5, [.ref a1, .int ld_4])), (a1, .inl (cI, 300, .inl fd_4)), (oK, .inr (3, [.ref k1, .ref k2, .int lK])), (k1, .inl (cI, 1024, .inl fK1)), (k2, .inl (cI, 1024, .inl fK2))]) rfl (wn := [(oR, .inr (9, [.ref oH, .ref oK, .ref n1, .ref n2, .ref n3, .ref r1, .ref r2, .ref r3, .ref r4, .ref r5, .ref r6, .int lR])), (r1, .inl (cI, 258, .inl fR1_6)), (r2, .inl (cI, 258, .inl fR2_6)), (r3, .inl (cI, 774, .inl fza)), (n1, .inr (5, [.ref a1, .int ld_4])), (a1, .inl (cI, 300, .inl fd_4)), (n2, .inr (5, [.ref a2, .int lta])), (a2, .inl (cI, 300, .inl ft_a)), (n3, .inr (5, [.ref a3, .int lha])), (a3, .inl (cI, 300, .inl fha)), (oH, .inr (4, [.ref oP, .ref h1, .ref h2, .int lH])), (h1, .inl (cI, 6, .inl fH1)), (h2, .inl (cI, 6, .inl fH2)), (oP, .inr (7, [.ref oC, .ref nB, .int ft_4])), (nB, .inr (5, [.ref aB, .int lB_4])), (aB, .inl (cI, 2400, .inl fB_4)), (oC, .inr (2, [.ref o4, .ref o5])), (o4, .inr (10, [.ref a41, .ref a42, .ref a43, .int l4])), (a41, .inl (cI, 256, .inl f41)), (a42, .inl (cI, 512, .inl f42)), (a43, .inl (cI, 512, .inl f43)), (o5, .inr (10, [.ref a51, .ref a52, .ref a53, .int l5])), (a51, .inl (cI, 256, .inl f51)), (a52, .inl (cI, 512, .inl f52)), (a53, .inl (cI, 512, .inl f53)), (oK, .inr (3, [.ref k1, .ref k2, .int lK])), (k1, .inl (cI, 1024, .inl fK1)), (k2, .inl (cI, 1024, .inl fK2)), (nx, .inr (5, [.ref ax, .int lx])), (ax, .inl (cI, 300, .inl fx))]) rfl
          clear hP hD hS hJ hPD9
          have hP := hPn
          have hD := hDn
          have hS := hSn
          clear hPn hDn hSn
          refine lv_aload_n hx hb dX9_find_55 rfl (lv_at hl 2 rfl) ?_
          refine lv_iload hx hb dX9_find_56 (lv_at hl 0 rfl) ?_
          refine lv_iload hx hb dX9_find_58 (lv_at hl 0 rfl) ?_
          refine lv_iconst (v := (-1)) hx hb dX9_find_60 (by decide) ?_
          refine lv_iconst (v := (-1)) hx hb dX9_find_61 (by decide) ?_
          refine kV_v (rest := []) (q0 := 0) (ci := 9) hcf (f_X9_nameHarms l dC dI cI cS H.size oR oH oK n1 n2 n3 r1 r2 r3 r4 r5 r6 lR fza la la (-1) (-1) (g_lR) (v_rr g_la (by decide) (by decide))) kc_X9_nameHarms gX9_find_X9_nameHarms rfl rfl rfl ⟨Nat.le_of_ble_eq_true rfl, Nat.le_of_ble_eq_true rfl⟩ kX_t hK hP hD hS hA (posT mk_31 0) (posF mk_31 0) (kC_of mk_31 rfl rfl) (by decide +kernel) rfl rfl rfl hl rfl (Nat.le_of_ble_eq_true rfl) dX9_find_62 ⟨Nat.le_of_ble_eq_true rfl, Nat.le_of_ble_eq_true rfl⟩ (fun H locs hB hJ hSn => ?_)
          refine hB _ (fun fR3_7 hPD9 hf7_0 => ?_)
          clear hB
          obtain ⟨hPn, hDn⟩ := kJi (m := mk_31) hJ rfl hPD9.1 hPD9.2 (wn := [(oR, .inr (9, [.ref oH, .ref oK, .ref n1, .ref n2, .ref n3, .ref r1, .ref r2, .ref r3, .ref r4, .ref r5, .ref r6, .int lR])), (r1, .inl (cI, 258, .inl fR1_6)), (r2, .inl (cI, 258, .inl fR2_6)), (r3, .inl (cI, 774, .inl fR3_7)), (n1, .inr (5, [.ref a1, .int ld_4])), (a1, .inl (cI, 300, .inl fd_4)), (n2, .inr (5, [.ref a2, .int lta])), (a2, .inl (cI, 300, .inl ft_a)), (n3, .inr (5, [.ref a3, .int lha])), (a3, .inl (cI, 300, .inl fha)), (oH, .inr (4, [.ref oP, .ref h1, .ref h2, .int lH])), (h1, .inl (cI, 6, .inl fH1)), (h2, .inl (cI, 6, .inl fH2)), (oP, .inr (7, [.ref oC, .ref nB, .int ft_4])), (nB, .inr (5, [.ref aB, .int lB_4])), (aB, .inl (cI, 2400, .inl fB_4)), (oC, .inr (2, [.ref o4, .ref o5])), (o4, .inr (10, [.ref a41, .ref a42, .ref a43, .int l4])), (a41, .inl (cI, 256, .inl f41)), (a42, .inl (cI, 512, .inl f42)), (a43, .inl (cI, 512, .inl f43)), (o5, .inr (10, [.ref a51, .ref a52, .ref a53, .int l5])), (a51, .inl (cI, 256, .inl f51)), (a52, .inl (cI, 512, .inl f52)), (a53, .inl (cI, 512, .inl f53)), (oK, .inr (3, [.ref k1, .ref k2, .int lK])), (k1, .inl (cI, 1024, .inl fK1)), (k2, .inl (cI, 1024, .inl fK2)), (nx, .inr (5, [.ref ax, .int lx])), (ax, .inl (cI, 300, .inl fx))]) rfl
          clear hP hD hS hJ hPD9
          have hP := hPn
          have hD := hDn
          have hS := hSn
          clear hPn hDn hSn
          obtain ⟨wa, hwa, hxa, hya⟩ := wp_of hf6_0 hf7_0 (by omega)
          refine lv_iconst (v := 0) hx hb dX9_find_65 (by decide) ?_
          refine lv_istore (lv' := [(5, .int 0), (4, .int la), (3, .int lH), (0, .ref oR), (1, .int n), (2, .ref nx)]) hx hb dX9_find_66 hl (by decide) rfl (fun ls hl => ?_)
          have LOOP_68 : ∀ (k_68 : Nat) (mi : Int32) (ftb : Int32) (lBb : Int32) (ltb : Int32) (lhb : Int32) (fBb : Nat → Int32) (ft_b : Nat → Int32) (fhb : Nat → Int32) (fxb : Nat → Int32) (fyb : Nat → Int32) (fzb : Nat → Int32) (H : Heap) (locs : List Loc) (ls : Array Slot), MSd (6 - mi.toInt : Int) k_68 → (0 ≤ mi.toInt ∧ mi.toInt ≤ 6) → (0 ≤ lBb.toInt ∧ lBb.toInt ≤ 2400) → (0 ≤ ltb.toInt ∧ ltb.toInt ≤ 300) → (0 ≤ lhb.toInt ∧ lhb.toInt ≤ 300) → (mi.toInt ≤ lH.toInt) → (rG1 (UC fH1 fH2 f41 f42 f43 f51 f52 f53) (tcC fK1 fK2) lH.toNatClampNeg lx.toInt.toNat fx n.toInt (la.toInt + 1) (la.toInt) (mi.toInt) (mi.toInt) (0) fxb fyb fzb) → va_P (dC, dI) vwCl [(oR, .inr (9, [.ref oH, .ref oK, .ref n1, .ref n2, .ref n3, .ref r1, .ref r2, .ref r3, .ref r4, .ref r5, .ref r6, .int lR])), (r1, .inl (cI, 258, .inl fxb)), (r2, .inl (cI, 258, .inl fyb)), (r3, .inl (cI, 774, .inl fzb)), (n1, .inr (5, [.ref a1, .int ld_4])), (a1, .inl (cI, 300, .inl fd_4)), (n2, .inr (5, [.ref a2, .int ltb])), (a2, .inl (cI, 300, .inl ft_b)), (n3, .inr (5, [.ref a3, .int lhb])), (a3, .inl (cI, 300, .inl fhb)), (oH, .inr (4, [.ref oP, .ref h1, .ref h2, .int lH])), (h1, .inl (cI, 6, .inl fH1)), (h2, .inl (cI, 6, .inl fH2)), (oP, .inr (7, [.ref oC, .ref nB, .int ftb])), (nB, .inr (5, [.ref aB, .int lBb])), (aB, .inl (cI, 2400, .inl fBb)), (oC, .inr (2, [.ref o4, .ref o5])), (o4, .inr (10, [.ref a41, .ref a42, .ref a43, .int l4])), (a41, .inl (cI, 256, .inl f41)), (a42, .inl (cI, 512, .inl f42)), (a43, .inl (cI, 512, .inl f43)), (o5, .inr (10, [.ref a51, .ref a52, .ref a53, .int l5])), (a51, .inl (cI, 256, .inl f51)), (a52, .inl (cI, 512, .inl f52)), (a53, .inl (cI, 512, .inl f53)), (oK, .inr (3, [.ref k1, .ref k2, .int lK])), (k1, .inl (cI, 1024, .inl fK1)), (k2, .inl (cI, 1024, .inl fK2)), (nx, .inr (5, [.ref ax, .int lx])), (ax, .inl (cI, 300, .inl fx))] H → va_D A [(oR, .inr (9, [.ref oH, .ref oK, .ref n1, .ref n2, .ref n3, .ref r1, .ref r2, .ref r3, .ref r4, .ref r5, .ref r6, .int lR])), (r1, .inl (cI, 258, .inl fxb)), (r2, .inl (cI, 258, .inl fyb)), (r3, .inl (cI, 774, .inl fzb)), (n1, .inr (5, [.ref a1, .int ld_4])), (a1, .inl (cI, 300, .inl fd_4)), (n2, .inr (5, [.ref a2, .int ltb])), (a2, .inl (cI, 300, .inl ft_b)), (n3, .inr (5, [.ref a3, .int lhb])), (a3, .inl (cI, 300, .inl fhb)), (oH, .inr (4, [.ref oP, .ref h1, .ref h2, .int lH])), (h1, .inl (cI, 6, .inl fH1)), (h2, .inl (cI, 6, .inl fH2)), (oP, .inr (7, [.ref oC, .ref nB, .int ftb])), (nB, .inr (5, [.ref aB, .int lBb])), (aB, .inl (cI, 2400, .inl fBb)), (oC, .inr (2, [.ref o4, .ref o5])), (o4, .inr (10, [.ref a41, .ref a42, .ref a43, .int l4])), (a41, .inl (cI, 256, .inl f41)), (a42, .inl (cI, 512, .inl f42)), (a43, .inl (cI, 512, .inl f43)), (o5, .inr (10, [.ref a51, .ref a52, .ref a53, .int l5])), (a51, .inl (cI, 256, .inl f51)), (a52, .inl (cI, 512, .inl f52)), (a53, .inl (cI, 512, .inl f53)), (oK, .inr (3, [.ref k1, .ref k2, .int lK])), (k1, .inl (cI, 1024, .inl fK1)), (k2, .inl (cI, 1024, .inl fK2)), (nx, .inr (5, [.ref ax, .int lx])), (ax, .inl (cI, 300, .inl fx))] → va_S A s.heap H locs → lv_has ls 9 [(5, .int mi), (4, .int la), (3, .int lH), (0, .ref oR), (1, .int n), (2, .ref nx)] → W p l e (headSpec wsX9_find ({ frames := 6, cells := 0, slots := 0, locals := 147 } : Room)).room s m ([.ref oR, .int n, .ref nx] : List Value).toArray below meth c H locs 0 0 (MQ below QQ ([.ref oR, .int n, .ref nx] : List Value).toArray s 0 0 A) (F0 m 68 ls []) := by
            clear hP hD hS hl
            try (clear hf4_0 g_lBa g_loa g_lta g_lha hf1_0)
            intro k_68
            induction k_68 with
            | zero =>
              intro mi ftb lBb ltb lhb fBb ft_b fhb fxb fyb fzb H locs ls hm_68 g_mi g_lBb g_ltb g_lhb hmz hGb hP hD hS hl
              exact ms_0 hm_68
            | succ k_68 ih_68 =>
              intro mi ftb lBb ltb lhb fBb ft_b fhb fxb fyb fzb H locs ls hm_68 g_mi g_lBb g_ltb g_lhb hmz hGb hP hD hS hl
              refine lv_iload_n hx hb dX9_find_68 rfl (lv_at hl 4 rfl) ?_
              refine lv_iconst (v := 1) hx hb dX9_find_69 (by decide) ?_
              refine lv_icmp_le (tgt := 222) hx hb dX9_find_70 (by decide) (fun c_8 => ?_) (fun c_8 => ?_)
              · have tc_8 : n.toInt ≤ 1 := v_le c_8
                obtain ⟨x_9, ex_9⟩ : ∃ y : Int32, y = la + 1 := ⟨_, rfl⟩
                have tx_9 : x_9.toInt = la.toInt + 1 := v_addR (l2 := 1) (h2 := 1) ex_9 g_la (by decide) (by decide) (by decide)
                refine lv_iinc (v := x_9) (lv' := [(4, .int x_9), (5, .int mi), (3, .int lH), (0, .ref oR), (1, .int n), (2, .ref nx)]) hx hb dX9_find_222 hl (k := 1) rfl (by rw [ex_9]; rfl) (by decide) rfl (fun ls hl => ?_)
                refine lv_goto (tgt := 19) hx hb dX9_find_225 (by decide) ?_
                exact ih_19 x_9 ftb lBb ld_4 ltb lhb fBb fd_4 ft_b fhb fxb fyb fzb _ _ _ (ms_lt hm_19 (by show ((6 - x_9.toInt : Int)) < 6 - la.toInt; omega) (by show (0 : Int) < 6 - la.toInt; omega)) (by show 0 ≤ x_9.toInt ∧ x_9.toInt ≤ 6; omega) (g_lBb) (hf4_1) (g_ltb) (g_lhb) (by show x_9.toInt ≤ lH.toInt; omega) (rG1_cg (rG1_e2 hGb rfl (by omega)) (by omega) (by omega) rfl rfl rfl) hP hD hS (lv_sub hl [0, 2, 3, 4, 5] rfl)
              · have tc_8 : 1 < n.toInt := v_nle c_8
                refine lv_iload hx hb dX9_find_73 (lv_at hl 0 rfl) ?_
                refine lv_iload_n hx hb dX9_find_75 rfl (lv_at hl 2 rfl) ?_
                refine lv_icmp_ge (tgt := 222) hx hb dX9_find_76 (by decide) (fun c_10 => ?_) (fun c_10 => ?_)
                · have tc_10 : lH.toInt ≤ mi.toInt := v_le c_10
                  obtain ⟨x_11, ex_11⟩ : ∃ y : Int32, y = la + 1 := ⟨_, rfl⟩
                  have tx_11 : x_11.toInt = la.toInt + 1 := v_addR (l2 := 1) (h2 := 1) ex_11 g_la (by decide) (by decide) (by decide)
                  refine lv_iinc (v := x_11) (lv' := [(4, .int x_11), (5, .int mi), (3, .int lH), (0, .ref oR), (1, .int n), (2, .ref nx)]) hx hb dX9_find_222 hl (k := 1) rfl (by rw [ex_11]; rfl) (by decide) rfl (fun ls hl => ?_)
                  refine lv_goto (tgt := 19) hx hb dX9_find_225 (by decide) ?_
                  exact ih_19 x_11 ftb lBb ld_4 ltb lhb fBb fd_4 ft_b fhb fxb fyb fzb _ _ _ (ms_lt hm_19 (by show ((6 - x_11.toInt : Int)) < 6 - la.toInt; omega) (by show (0 : Int) < 6 - la.toInt; omega)) (by show 0 ≤ x_11.toInt ∧ x_11.toInt ≤ 6; omega) (g_lBb) (hf4_1) (g_ltb) (g_lhb) (by show x_11.toInt ≤ lH.toInt; omega) (rG1_cg (rG1_e2 hGb rfl (by omega)) (by omega) (by omega) rfl rfl rfl) hP hD hS (lv_sub hl [0, 2, 3, 4, 5] rfl)
                · have tc_10 : mi.toInt < lH.toInt := v_nle c_10
                  have cmi := v_clamp (x := mi) (by omega)
                  refine lv_aload_n hx hb dX9_find_79 rfl (lv_at hl 3 rfl) ?_
                  refine va_get (D := (dC, dI)) (ci := 9) (v := .ref oH) (C := RX9) (T := TX9) (N := 12) hx hb hts in_X9 hown hK hP 0 rfl rfl 0 (Nat.le_of_ble_eq_true rfl) (hts (.fieldLink RX9 45 "TextMender$Rows" "harms" "LTextMender$Harms;") (List.mem_of_getElem? (i := 2) rfl)) (fun _ h9 => h9) rfl dX9_find_80 ?_
                  refine lv_iload hx hb dX9_find_83 (lv_at hl 0 rfl) ?_
                  refine lv_aload_n hx hb dX9_find_85 rfl (lv_at hl 3 rfl) ?_
                  refine va_get (D := (dC, dI)) (ci := 9) (v := .ref n1) (C := RX9) (T := TX9) (N := 12) hx hb hts in_X9 hown hK hP 0 rfl rfl 2 (Nat.le_of_ble_eq_true rfl) (hts (.fieldLink RX9 14 "TextMender$Rows" "one" "LTextMender$Numbers;") (List.mem_of_getElem? (i := 3) rfl)) (fun _ h9 => h9) rfl dX9_find_86 ?_
                  refine lv_aload_n hx hb dX9_find_89 rfl (lv_at hl 3 rfl) ?_
                  refine va_get (D := (dC, dI)) (ci := 9) (v := .ref n2) (C := RX9) (T := TX9) (N := 12) hx hb hts in_X9 hown hK hP 0 rfl rfl 3 (Nat.le_of_ble_eq_true rfl) (hts (.fieldLink RX9 20 "TextMender$Rows" "two" "LTextMender$Numbers;") (List.mem_of_getElem? (i := 4) rfl)) (fun _ h9 => h9) rfl dX9_find_90 ?_
                  refine kV_i (rest := []) (q0 := 0) (ci := 4) hcf (f_X4_takeOff l dC dI cI cS H.size oH n1 n2 oP h1 h2 oC nB aB a1 a2 o4 o5 a41 a42 a43 a51 a52 a53 lH fH1 fH2 ftb lBb fBb ld_4 fd_4 ltb ft_b l4 f41 f42 f43 l5 f51 f52 f53 mi (g_lH) (g_lBb) (hf4_1) (g_ltb) (by omega) (by omega) (hpa) (hT4) (ho4) (hT5) (ho5) (hL4) (hL5) (hBr)) kc_X4_takeOff gX9_find_X4_takeOff rfl rfl rfl ⟨Nat.le_of_ble_eq_true rfl, Nat.le_of_ble_eq_true rfl⟩ (kX_1 hN52) hK hP hD hS hA ([4, 5, 6, 7, 8, 9, 0, 1, 2, 3, 10, 11, 12, 13, 14, 15, 16, 17, 18].filterMap (fun j => (posT mk_32 0)[j]?)) (posF mk_32 0) (kCp (ws := [(n1, .inr (5, [.ref a1, .int ld_4])), (a1, .inl (cI, 300, .inl fd_4)), (n2, .inr (5, [.ref a2, .int ltb])), (a2, .inl (cI, 300, .inl ft_b)), (oH, .inr (4, [.ref oP, .ref h1, .ref h2, .int lH])), (h1, .inl (cI, 6, .inl fH1)), (h2, .inl (cI, 6, .inl fH2)), (oP, .inr (7, [.ref oC, .ref nB, .int ftb])), (nB, .inr (5, [.ref aB, .int lBb])), (aB, .inl (cI, 2400, .inl fBb)), (oC, .inr (2, [.ref o4, .ref o5])), (o4, .inr (10, [.ref a41, .ref a42, .ref a43, .int l4])), (a41, .inl (cI, 256, .inl f41)), (a42, .inl (cI, 512, .inl f42)), (a43, .inl (cI, 512, .inl f43)), (o5, .inr (10, [.ref a51, .ref a52, .ref a53, .int l5])), (a51, .inl (cI, 256, .inl f51)), (a52, .inl (cI, 512, .inl f52)), (a53, .inl (cI, 512, .inl f53))]) (kC_of mk_32 rfl rfl) rfl) (by decide +kernel) rfl rfl rfl hl rfl (Nat.le_of_ble_eq_true rfl) dX9_find_93 ⟨Nat.le_of_ble_eq_true rfl, Nat.le_of_ble_eq_true rfl⟩ (fun r_12 H locs hB hJ hSn => ?_)
                  refine hB _ (fun ft_12 lB_12 fB_12 ld_12 fd_12 hPD9 hf12_0 hf12_1 hf12_2 hf12_3 => ?_)
                  clear hB
                  obtain ⟨hPn, hDn⟩ := kJm (m := mk_32) hJ rfl hPD9.1 hPD9.2 [6, 7, 8, 9, 0, 1, 2, 3, 4, 5, 10, 11, 12, 13, 14, 15, 16, 17, 18] (by decide +kernel) (ws := [(n1, .inr (5, [.ref a1, .int ld_4])), (a1, .inl (cI, 300, .inl fd_4)), (n2, .inr (5, [.ref a2, .int ld_12])), (a2, .inl (cI, 300, .inl fd_12)), (oH, .inr (4, [.ref oP, .ref h1, .ref h2, .int lH])), (h1, .inl (cI, 6, .inl fH1)), (h2, .inl (cI, 6, .inl fH2)), (oP, .inr (7, [.ref oC, .ref nB, .int ft_12])), (nB, .inr (5, [.ref aB, .int lB_12])), (aB, .inl (cI, 2400, .inl fB_12)), (oC, .inr (2, [.ref o4, .ref o5])), (o4, .inr (10, [.ref a41, .ref a42, .ref a43, .int l4])), (a41, .inl (cI, 256, .inl f41)), (a42, .inl (cI, 512, .inl f42)), (a43, .inl (cI, 512, .inl f43)), (o5, .inr (10, [.ref a51, .ref a52, .ref a53, .int l5])), (a51, .inl (cI, 256, .inl f51)), (a52, .inl (cI, 512, .inl f52)), (a53, .inl (cI, 512, .inl f53))]) rfl (wn := [(oR, .inr (9, [.ref oH, .ref oK, .ref n1, .ref n2, .ref n3, .ref r1, .ref r2, .ref r3, .ref r4, .ref r5, .ref r6, .int lR])), (r1, .inl (cI, 258, .inl fxb)), (r2, .inl (cI, 258, .inl fyb)), (r3, .inl (cI, 774, .inl fzb)), (n1, .inr (5, [.ref a1, .int ld_4])), (a1, .inl (cI, 300, .inl fd_4)), (n2, .inr (5, [.ref a2, .int ld_12])), (a2, .inl (cI, 300, .inl fd_12)), (n3, .inr (5, [.ref a3, .int lhb])), (a3, .inl (cI, 300, .inl fhb)), (oH, .inr (4, [.ref oP, .ref h1, .ref h2, .int lH])), (h1, .inl (cI, 6, .inl fH1)), (h2, .inl (cI, 6, .inl fH2)), (oP, .inr (7, [.ref oC, .ref nB, .int ft_12])), (nB, .inr (5, [.ref aB, .int lB_12])), (aB, .inl (cI, 2400, .inl fB_12)), (oC, .inr (2, [.ref o4, .ref o5])), (o4, .inr (10, [.ref a41, .ref a42, .ref a43, .int l4])), (a41, .inl (cI, 256, .inl f41)), (a42, .inl (cI, 512, .inl f42)), (a43, .inl (cI, 512, .inl f43)), (o5, .inr (10, [.ref a51, .ref a52, .ref a53, .int l5])), (a51, .inl (cI, 256, .inl f51)), (a52, .inl (cI, 512, .inl f52)), (a53, .inl (cI, 512, .inl f53)), (oK, .inr (3, [.ref k1, .ref k2, .int lK])), (k1, .inl (cI, 1024, .inl fK1)), (k2, .inl (cI, 1024, .inl fK2)), (nx, .inr (5, [.ref ax, .int lx])), (ax, .inl (cI, 300, .inl fx))]) rfl
                  clear hP hD hS hJ hPD9
                  have hP := hPn
                  have hD := hDn
                  have hS := hSn
                  clear hPn hDn hSn
                  refine lv_if_ne (tgt := 102) hx hb dX9_find_96 (by decide) (fun c_13 => ?_) (fun c_13 => ?_)
                  · have tc_13 : ¬ r_12.toInt = 0 := v_ne c_13
                    have hUb := to_1n hf12_3 (by omega)
                    have hpb := to_p hU hf12_3 (by omega) hpa
                    refine lv_iload_n hx hb dX9_find_102 rfl (lv_at hl 2 rfl) ?_
                    refine lv_iload hx hb dX9_find_103 (lv_at hl 0 rfl) ?_
                    refine lv_iload_n hx hb dX9_find_105 rfl (lv_at hl 2 rfl) ?_
                    refine lv_imul hx hb dX9_find_106 ?_
                    refine lv_topi (fun x_14 ex_14 => ?_)
                    have tm_x_14 := v_mulz ex_14 (by omega) (by omega)
                    have tn_x_14 := v_mulz5 ex_14 (by omega) (by omega)
                    refine lv_iadd hx hb dX9_find_107 ?_
                    refine lv_topi (fun x_15 ex_15 => ?_)
                    have tx_15 : x_15.toInt = lH.toInt + x_14.toInt := v_add ex_15 (by show -2147483648 ≤ lH.toInt + x_14.toInt; omega) (by show lH.toInt + x_14.toInt < 2147483648; omega)
                    refine lv_iload hx hb dX9_find_108 (lv_at hl 1 rfl) ?_
                    refine lv_iadd hx hb dX9_find_110 ?_
                    refine lv_topi (fun x_16 ex_16 => ?_)
                    have tx_16 : x_16.toInt = x_15.toInt + la.toInt := v_add ex_16 (by show -2147483648 ≤ x_15.toInt + la.toInt; omega) (by show x_15.toInt + la.toInt < 2147483648; omega)
                    refine lv_istore (lv' := [(6, .int x_16), (5, .int mi), (4, .int la), (3, .int lH), (0, .ref oR), (1, .int n), (2, .ref nx)]) hx hb dX9_find_111 hl (by decide) rfl (fun ls hl => ?_)
                    have hp2_x_16 := pl2_of (la := la) (p := x_16) ex_14 (by omega) (by omega) (by omega) (by omega)
                    refine lv_aload_n hx hb dX9_find_113 rfl (lv_at hl 4 rfl) ?_
                    refine lv_iload hx hb dX9_find_114 (lv_at hl 0 rfl) ?_
                    refine lv_aload_n hx hb dX9_find_116 rfl (lv_at hl 4 rfl) ?_
                    refine va_get (D := (dC, dI)) (ci := 9) (v := .ref n2) (C := RX9) (T := TX9) (N := 12) hx hb hts in_X9 hown hK hP 0 rfl rfl 3 (Nat.le_of_ble_eq_true rfl) (hts (.fieldLink RX9 20 "TextMender$Rows" "two" "LTextMender$Numbers;") (List.mem_of_getElem? (i := 4) rfl)) (fun _ h9 => h9) rfl dX9_find_117 ?_
                    refine kV_v (rest := []) (q0 := 0) (ci := 9) hcf (f_X9_note l dC dI cI cS H.size oR n2 oH oK n1 n2 n3 r1 r2 r3 r4 r5 r6 k1 k2 a2 lR fxb fyb lK fK1 fK2 ld_12 fd_12 x_16 (g_lR) (g_lK) (hf12_1) (by omega) (hT) (ho) (hV) (hpb)) kc_X9_note gX9_find_X9_note rfl rfl rfl ⟨Nat.le_of_ble_eq_true rfl, Nat.le_of_ble_eq_true rfl⟩ kX_t hK hP hD hS hA ([0, 1, 2, 5, 6, 7, 3, 4].filterMap (fun j => (posT mk_33 0)[j]?)) (posF mk_33 0) (kCp (ws := [(oR, .inr (9, [.ref oH, .ref oK, .ref n1, .ref n2, .ref n3, .ref r1, .ref r2, .ref r3, .ref r4, .ref r5, .ref r6, .int lR])), (r1, .inl (cI, 258, .inl fxb)), (r2, .inl (cI, 258, .inl fyb)), (n2, .inr (5, [.ref a2, .int ld_12])), (a2, .inl (cI, 300, .inl fd_12)), (oK, .inr (3, [.ref k1, .ref k2, .int lK])), (k1, .inl (cI, 1024, .inl fK1)), (k2, .inl (cI, 1024, .inl fK2))]) (kC_of mk_33 rfl rfl) rfl) (by decide +kernel) rfl rfl rfl hl rfl (Nat.le_of_ble_eq_true rfl) dX9_find_120 ⟨Nat.le_of_ble_eq_true rfl, Nat.le_of_ble_eq_true rfl⟩ (fun H locs hB hJ hSn => ?_)
                    refine hB _ (fun fR1_17 fR2_17 hPD9 hf17_0 => ?_)
                    clear hB
                    obtain ⟨hPn, hDn⟩ := kJm (m := mk_33) hJ rfl hPD9.1 hPD9.2 [0, 1, 2, 6, 7, 3, 4, 5] (by decide +kernel) (ws := [(oR, .inr (9, [.ref oH, .ref oK, .ref n1, .ref n2, .ref n3, .ref r1, .ref r2, .ref r3, .ref r4, .ref r5, .ref r6, .int lR])), (r1, .inl (cI, 258, .inl fR1_17)), (r2, .inl (cI, 258, .inl fR2_17)), (n2, .inr (5, [.ref a2, .int ld_12])), (a2, .inl (cI, 300, .inl fd_12)), (oK, .inr (3, [.ref k1, .ref k2, .int lK])), (k1, .inl (cI, 1024, .inl fK1)), (k2, .inl (cI, 1024, .inl fK2))]) rfl (wn := [(oR, .inr (9, [.ref oH, .ref oK, .ref n1, .ref n2, .ref n3, .ref r1, .ref r2, .ref r3, .ref r4, .ref r5, .ref r6, .int lR])), (r1, .inl (cI, 258, .inl fR1_17)), (r2, .inl (cI, 258, .inl fR2_17)), (r3, .inl (cI, 774, .inl fzb)), (n1, .inr (5, [.ref a1, .int ld_4])), (a1, .inl (cI, 300, .inl fd_4)), (n2, .inr (5, [.ref a2, .int ld_12])), (a2, .inl (cI, 300, .inl fd_12)), (n3, .inr (5, [.ref a3, .int lhb])), (a3, .inl (cI, 300, .inl fhb)), (oH, .inr (4, [.ref oP, .ref h1, .ref h2, .int lH])), (h1, .inl (cI, 6, .inl fH1)), (h2, .inl (cI, 6, .inl fH2)), (oP, .inr (7, [.ref oC, .ref nB, .int ft_12])), (nB, .inr (5, [.ref aB, .int lB_12])), (aB, .inl (cI, 2400, .inl fB_12)), (oC, .inr (2, [.ref o4, .ref o5])), (o4, .inr (10, [.ref a41, .ref a42, .ref a43, .int l4])), (a41, .inl (cI, 256, .inl f41)), (a42, .inl (cI, 512, .inl f42)), (a43, .inl (cI, 512, .inl f43)), (o5, .inr (10, [.ref a51, .ref a52, .ref a53, .int l5])), (a51, .inl (cI, 256, .inl f51)), (a52, .inl (cI, 512, .inl f52)), (a53, .inl (cI, 512, .inl f53)), (oK, .inr (3, [.ref k1, .ref k2, .int lK])), (k1, .inl (cI, 1024, .inl fK1)), (k2, .inl (cI, 1024, .inl fK2)), (nx, .inr (5, [.ref ax, .int lx])), (ax, .inl (cI, 300, .inl fx))]) rfl
                    clear hP hD hS hJ hPD9
                    have hP := hPn
                    have hD := hDn
                    have hS := hSn
                    clear hPn hDn hSn
                    refine lv_aload_n hx hb dX9_find_123 rfl (lv_at hl 4 rfl) ?_
                    refine lv_iload hx hb dX9_find_124 (lv_at hl 0 rfl) ?_
                    refine lv_iload hx hb dX9_find_126 (lv_at hl 1 rfl) ?_
                    refine lv_iload hx hb dX9_find_128 (lv_at hl 2 rfl) ?_
                    refine lv_iconst (v := (-1)) hx hb dX9_find_130 (by decide) ?_
                    refine kV_v (rest := []) (q0 := 0) (ci := 9) hcf (f_X9_nameHarms l dC dI cI cS H.size oR oH oK n1 n2 n3 r1 r2 r3 r4 r5 r6 lR fzb x_16 mi la (-1) (g_lR) (by omega)) kc_X9_nameHarms gX9_find_X9_nameHarms rfl rfl rfl ⟨Nat.le_of_ble_eq_true rfl, Nat.le_of_ble_eq_true rfl⟩ kX_t hK hP hD hS hA (posT mk_31 0) (posF mk_31 0) (kC_of mk_31 rfl rfl) (by decide +kernel) rfl rfl rfl hl rfl (Nat.le_of_ble_eq_true rfl) dX9_find_131 ⟨Nat.le_of_ble_eq_true rfl, Nat.le_of_ble_eq_true rfl⟩ (fun H locs hB hJ hSn => ?_)
                    refine hB _ (fun fR3_18 hPD9 hf18_0 => ?_)
                    clear hB
                    obtain ⟨hPn, hDn⟩ := kJi (m := mk_31) hJ rfl hPD9.1 hPD9.2 (wn := [(oR, .inr (9, [.ref oH, .ref oK, .ref n1, .ref n2, .ref n3, .ref r1, .ref r2, .ref r3, .ref r4, .ref r5, .ref r6, .int lR])), (r1, .inl (cI, 258, .inl fR1_17)), (r2, .inl (cI, 258, .inl fR2_17)), (r3, .inl (cI, 774, .inl fR3_18)), (n1, .inr (5, [.ref a1, .int ld_4])), (a1, .inl (cI, 300, .inl fd_4)), (n2, .inr (5, [.ref a2, .int ld_12])), (a2, .inl (cI, 300, .inl fd_12)), (n3, .inr (5, [.ref a3, .int lhb])), (a3, .inl (cI, 300, .inl fhb)), (oH, .inr (4, [.ref oP, .ref h1, .ref h2, .int lH])), (h1, .inl (cI, 6, .inl fH1)), (h2, .inl (cI, 6, .inl fH2)), (oP, .inr (7, [.ref oC, .ref nB, .int ft_12])), (nB, .inr (5, [.ref aB, .int lB_12])), (aB, .inl (cI, 2400, .inl fB_12)), (oC, .inr (2, [.ref o4, .ref o5])), (o4, .inr (10, [.ref a41, .ref a42, .ref a43, .int l4])), (a41, .inl (cI, 256, .inl f41)), (a42, .inl (cI, 512, .inl f42)), (a43, .inl (cI, 512, .inl f43)), (o5, .inr (10, [.ref a51, .ref a52, .ref a53, .int l5])), (a51, .inl (cI, 256, .inl f51)), (a52, .inl (cI, 512, .inl f52)), (a53, .inl (cI, 512, .inl f53)), (oK, .inr (3, [.ref k1, .ref k2, .int lK])), (k1, .inl (cI, 1024, .inl fK1)), (k2, .inl (cI, 1024, .inl fK2)), (nx, .inr (5, [.ref ax, .int lx])), (ax, .inl (cI, 300, .inl fx))]) rfl
                    clear hP hD hS hJ hPD9
                    have hP := hPn
                    have hD := hDn
                    have hS := hSn
                    clear hPn hDn hSn
                    obtain ⟨wb, hwb, hxb, hyb⟩ := wp_of hf17_0 hf18_0 (by omega)
                    refine lv_iconst (v := 0) hx hb dX9_find_134 (by decide) ?_
                    refine lv_istore (lv' := [(7, .int 0), (6, .int x_16), (5, .int mi), (4, .int la), (3, .int lH), (0, .ref oR), (1, .int n), (2, .ref nx)]) hx hb dX9_find_135 hl (by decide) rfl (fun ls hl => ?_)
                    have LOOP_137 : ∀ (k_137 : Nat) (fi : Int32) (ftc : Int32) (lBc : Int32) (lhc : Int32) (fBc : Nat → Int32) (fhc : Nat → Int32) (fxc : Nat → Int32) (fyc : Nat → Int32) (fzc : Nat → Int32) (H : Heap) (locs : List Loc) (ls : Array Slot), MSd (6 - fi.toInt : Int) k_137 → (0 ≤ fi.toInt ∧ fi.toInt ≤ 6) → (0 ≤ lBc.toInt ∧ lBc.toInt ≤ 2400) → (0 ≤ lhc.toInt ∧ lhc.toInt ≤ 300) → (fi.toInt ≤ lH.toInt) → (rG1 (UC fH1 fH2 f41 f42 f43 f51 f52 f53) (tcC fK1 fK2) lH.toNatClampNeg lx.toInt.toNat fx n.toInt (la.toInt + 1) (la.toInt) (mi.toInt + 1) (mi.toInt) (fi.toInt) fxc fyc fzc) → va_P (dC, dI) vwCl [(oR, .inr (9, [.ref oH, .ref oK, .ref n1, .ref n2, .ref n3, .ref r1, .ref r2, .ref r3, .ref r4, .ref r5, .ref r6, .int lR])), (r1, .inl (cI, 258, .inl fxc)), (r2, .inl (cI, 258, .inl fyc)), (r3, .inl (cI, 774, .inl fzc)), (n1, .inr (5, [.ref a1, .int ld_4])), (a1, .inl (cI, 300, .inl fd_4)), (n2, .inr (5, [.ref a2, .int ld_12])), (a2, .inl (cI, 300, .inl fd_12)), (n3, .inr (5, [.ref a3, .int lhc])), (a3, .inl (cI, 300, .inl fhc)), (oH, .inr (4, [.ref oP, .ref h1, .ref h2, .int lH])), (h1, .inl (cI, 6, .inl fH1)), (h2, .inl (cI, 6, .inl fH2)), (oP, .inr (7, [.ref oC, .ref nB, .int ftc])), (nB, .inr (5, [.ref aB, .int lBc])), (aB, .inl (cI, 2400, .inl fBc)), (oC, .inr (2, [.ref o4, .ref o5])), (o4, .inr (10, [.ref a41, .ref a42, .ref a43, .int l4])), (a41, .inl (cI, 256, .inl f41)), (a42, .inl (cI, 512, .inl f42)), (a43, .inl (cI, 512, .inl f43)), (o5, .inr (10, [.ref a51, .ref a52, .ref a53, .int l5])), (a51, .inl (cI, 256, .inl f51)), (a52, .inl (cI, 512, .inl f52)), (a53, .inl (cI, 512, .inl f53)), (oK, .inr (3, [.ref k1, .ref k2, .int lK])), (k1, .inl (cI, 1024, .inl fK1)), (k2, .inl (cI, 1024, .inl fK2)), (nx, .inr (5, [.ref ax, .int lx])), (ax, .inl (cI, 300, .inl fx))] H → va_D A [(oR, .inr (9, [.ref oH, .ref oK, .ref n1, .ref n2, .ref n3, .ref r1, .ref r2, .ref r3, .ref r4, .ref r5, .ref r6, .int lR])), (r1, .inl (cI, 258, .inl fxc)), (r2, .inl (cI, 258, .inl fyc)), (r3, .inl (cI, 774, .inl fzc)), (n1, .inr (5, [.ref a1, .int ld_4])), (a1, .inl (cI, 300, .inl fd_4)), (n2, .inr (5, [.ref a2, .int ld_12])), (a2, .inl (cI, 300, .inl fd_12)), (n3, .inr (5, [.ref a3, .int lhc])), (a3, .inl (cI, 300, .inl fhc)), (oH, .inr (4, [.ref oP, .ref h1, .ref h2, .int lH])), (h1, .inl (cI, 6, .inl fH1)), (h2, .inl (cI, 6, .inl fH2)), (oP, .inr (7, [.ref oC, .ref nB, .int ftc])), (nB, .inr (5, [.ref aB, .int lBc])), (aB, .inl (cI, 2400, .inl fBc)), (oC, .inr (2, [.ref o4, .ref o5])), (o4, .inr (10, [.ref a41, .ref a42, .ref a43, .int l4])), (a41, .inl (cI, 256, .inl f41)), (a42, .inl (cI, 512, .inl f42)), (a43, .inl (cI, 512, .inl f43)), (o5, .inr (10, [.ref a51, .ref a52, .ref a53, .int l5])), (a51, .inl (cI, 256, .inl f51)), (a52, .inl (cI, 512, .inl f52)), (a53, .inl (cI, 512, .inl f53)), (oK, .inr (3, [.ref k1, .ref k2, .int lK])), (k1, .inl (cI, 1024, .inl fK1)), (k2, .inl (cI, 1024, .inl fK2)), (nx, .inr (5, [.ref ax, .int lx])), (ax, .inl (cI, 300, .inl fx))] → va_S A s.heap H locs → lv_has ls 9 [(7, .int fi), (5, .int mi), (4, .int la), (3, .int lH), (0, .ref oR), (1, .int n), (2, .ref nx)] → W p l e (headSpec wsX9_find ({ frames := 6, cells := 0, slots := 0, locals := 147 } : Room)).room s m ([.ref oR, .int n, .ref nx] : List Value).toArray below meth c H locs 0 0 (MQ below QQ ([.ref oR, .int n, .ref nx] : List Value).toArray s 0 0 A) (F0 m 137 ls []) := by
                      clear hP hD hS hl
                      try (clear hf12_0 g_lBb g_ltb g_lhb hf4_0 g_lBa g_loa g_lta g_lha hf1_0)
                      intro k_137
                      induction k_137 with
                      | zero =>
                        intro fi ftc lBc lhc fBc fhc fxc fyc fzc H locs ls hm_137 g_fi g_lBc g_lhc hfz hGc hP hD hS hl
                        exact ms_0 hm_137
                      | succ k_137 ih_137 =>
                        intro fi ftc lBc lhc fBc fhc fxc fyc fzc H locs ls hm_137 g_fi g_lBc g_lhc hfz hGc hP hD hS hl
                        refine lv_iload_n hx hb dX9_find_137 rfl (lv_at hl 5 rfl) ?_
                        refine lv_iconst (v := 2) hx hb dX9_find_138 (by decide) ?_
                        refine lv_icmp_le (tgt := 216) hx hb dX9_find_139 (by decide) (fun c_19 => ?_) (fun c_19 => ?_)
                        · have tc_19 : n.toInt ≤ 2 := v_le c_19
                          obtain ⟨x_20, ex_20⟩ : ∃ y : Int32, y = mi + 1 := ⟨_, rfl⟩
                          have tx_20 : x_20.toInt = mi.toInt + 1 := v_addR (l2 := 1) (h2 := 1) ex_20 g_mi (by decide) (by decide) (by decide)
                          refine lv_iinc (v := x_20) (lv' := [(5, .int x_20), (7, .int fi), (4, .int la), (3, .int lH), (0, .ref oR), (1, .int n), (2, .ref nx)]) hx hb dX9_find_216 hl (k := 1) rfl (by rw [ex_20]; rfl) (by decide) rfl (fun ls hl => ?_)
                          refine lv_goto (tgt := 68) hx hb dX9_find_219 (by decide) ?_
                          exact ih_68 x_20 ftc lBc ld_12 lhc fBc fd_12 fhc fxc fyc fzc _ _ _ (ms_lt hm_68 (by show ((6 - x_20.toInt : Int)) < 6 - mi.toInt; omega) (by show (0 : Int) < 6 - mi.toInt; omega)) (by show 0 ≤ x_20.toInt ∧ x_20.toInt ≤ 6; omega) (g_lBc) (hf12_1) (g_lhc) (by show x_20.toInt ≤ lH.toInt; omega) (rG1_cg (rG1_e3 hGc rfl (by omega)) rfl rfl (by omega) (by omega) rfl) hP hD hS (lv_sub hl [0, 2, 3, 4, 5, 6] rfl)
                        · have tc_19 : 2 < n.toInt := v_nle c_19
                          refine lv_iload hx hb dX9_find_142 (lv_at hl 0 rfl) ?_
                          refine lv_iload_n hx hb dX9_find_144 rfl (lv_at hl 3 rfl) ?_
                          refine lv_icmp_ge (tgt := 216) hx hb dX9_find_145 (by decide) (fun c_21 => ?_) (fun c_21 => ?_)
                          · have tc_21 : lH.toInt ≤ fi.toInt := v_le c_21
                            obtain ⟨x_22, ex_22⟩ : ∃ y : Int32, y = mi + 1 := ⟨_, rfl⟩
                            have tx_22 : x_22.toInt = mi.toInt + 1 := v_addR (l2 := 1) (h2 := 1) ex_22 g_mi (by decide) (by decide) (by decide)
                            refine lv_iinc (v := x_22) (lv' := [(5, .int x_22), (7, .int fi), (4, .int la), (3, .int lH), (0, .ref oR), (1, .int n), (2, .ref nx)]) hx hb dX9_find_216 hl (k := 1) rfl (by rw [ex_22]; rfl) (by decide) rfl (fun ls hl => ?_)
                            refine lv_goto (tgt := 68) hx hb dX9_find_219 (by decide) ?_
                            exact ih_68 x_22 ftc lBc ld_12 lhc fBc fd_12 fhc fxc fyc fzc _ _ _ (ms_lt hm_68 (by show ((6 - x_22.toInt : Int)) < 6 - mi.toInt; omega) (by show (0 : Int) < 6 - mi.toInt; omega)) (by show 0 ≤ x_22.toInt ∧ x_22.toInt ≤ 6; omega) (g_lBc) (hf12_1) (g_lhc) (by show x_22.toInt ≤ lH.toInt; omega) (rG1_cg (rG1_e3 hGc rfl (by omega)) rfl rfl (by omega) (by omega) rfl) hP hD hS (lv_sub hl [0, 2, 3, 4, 5, 6] rfl)
                          · have tc_21 : fi.toInt < lH.toInt := v_nle c_21
                            have cfi := v_clamp (x := fi) (by omega)
                            refine lv_aload_n hx hb dX9_find_148 rfl (lv_at hl 4 rfl) ?_
                            refine va_get (D := (dC, dI)) (ci := 9) (v := .ref oH) (C := RX9) (T := TX9) (N := 12) hx hb hts in_X9 hown hK hP 0 rfl rfl 0 (Nat.le_of_ble_eq_true rfl) (hts (.fieldLink RX9 45 "TextMender$Rows" "harms" "LTextMender$Harms;") (List.mem_of_getElem? (i := 2) rfl)) (fun _ h9 => h9) rfl dX9_find_149 ?_
                            refine lv_iload hx hb dX9_find_152 (lv_at hl 0 rfl) ?_
                            refine lv_aload_n hx hb dX9_find_154 rfl (lv_at hl 4 rfl) ?_
                            refine va_get (D := (dC, dI)) (ci := 9) (v := .ref n2) (C := RX9) (T := TX9) (N := 12) hx hb hts in_X9 hown hK hP 0 rfl rfl 3 (Nat.le_of_ble_eq_true rfl) (hts (.fieldLink RX9 20 "TextMender$Rows" "two" "LTextMender$Numbers;") (List.mem_of_getElem? (i := 4) rfl)) (fun _ h9 => h9) rfl dX9_find_155 ?_
                            refine lv_aload_n hx hb dX9_find_158 rfl (lv_at hl 4 rfl) ?_
                            refine va_get (D := (dC, dI)) (ci := 9) (v := .ref n3) (C := RX9) (T := TX9) (N := 12) hx hb hts in_X9 hown hK hP 0 rfl rfl 4 (Nat.le_of_ble_eq_true rfl) (hts (.fieldLink RX9 23 "TextMender$Rows" "three" "LTextMender$Numbers;") (List.mem_of_getElem? (i := 5) rfl)) (fun _ h9 => h9) rfl dX9_find_159 ?_
                            refine kV_i (rest := []) (q0 := 0) (ci := 4) hcf (f_X4_takeOff l dC dI cI cS H.size oH n2 n3 oP h1 h2 oC nB aB a2 a3 o4 o5 a41 a42 a43 a51 a52 a53 lH fH1 fH2 ftc lBc fBc ld_12 fd_12 lhc fhc l4 f41 f42 f43 l5 f51 f52 f53 fi (g_lH) (g_lBc) (hf12_1) (g_lhc) (by omega) (by omega) (hpb) (hT4) (ho4) (hT5) (ho5) (hL4) (hL5) (hBr)) kc_X4_takeOff gX9_find_X4_takeOff rfl rfl rfl ⟨Nat.le_of_ble_eq_true rfl, Nat.le_of_ble_eq_true rfl⟩ (kX_1 hN52) hK hP hD hS hA ([4, 5, 6, 7, 8, 9, 0, 1, 2, 3, 10, 11, 12, 13, 14, 15, 16, 17, 18].filterMap (fun j => (posT mk_34 0)[j]?)) (posF mk_34 0) (kCp (ws := [(n2, .inr (5, [.ref a2, .int ld_12])), (a2, .inl (cI, 300, .inl fd_12)), (n3, .inr (5, [.ref a3, .int lhc])), (a3, .inl (cI, 300, .inl fhc)), (oH, .inr (4, [.ref oP, .ref h1, .ref h2, .int lH])), (h1, .inl (cI, 6, .inl fH1)), (h2, .inl (cI, 6, .inl fH2)), (oP, .inr (7, [.ref oC, .ref nB, .int ftc])), (nB, .inr (5, [.ref aB, .int lBc])), (aB, .inl (cI, 2400, .inl fBc)), (oC, .inr (2, [.ref o4, .ref o5])), (o4, .inr (10, [.ref a41, .ref a42, .ref a43, .int l4])), (a41, .inl (cI, 256, .inl f41)), (a42, .inl (cI, 512, .inl f42)), (a43, .inl (cI, 512, .inl f43)), (o5, .inr (10, [.ref a51, .ref a52, .ref a53, .int l5])), (a51, .inl (cI, 256, .inl f51)), (a52, .inl (cI, 512, .inl f52)), (a53, .inl (cI, 512, .inl f53))]) (kC_of mk_34 rfl rfl) rfl) (by decide +kernel) rfl rfl rfl hl rfl (Nat.le_of_ble_eq_true rfl) dX9_find_162 ⟨Nat.le_of_ble_eq_true rfl, Nat.le_of_ble_eq_true rfl⟩ (fun r_23 H locs hB hJ hSn => ?_)
                            refine hB _ (fun ft_23 lB_23 fB_23 ld_23 fd_23 hPD9 hf23_0 hf23_1 hf23_2 hf23_3 => ?_)
                            clear hB
                            obtain ⟨hPn, hDn⟩ := kJm (m := mk_34) hJ rfl hPD9.1 hPD9.2 [6, 7, 8, 9, 0, 1, 2, 3, 4, 5, 10, 11, 12, 13, 14, 15, 16, 17, 18] (by decide +kernel) (ws := [(n2, .inr (5, [.ref a2, .int ld_12])), (a2, .inl (cI, 300, .inl fd_12)), (n3, .inr (5, [.ref a3, .int ld_23])), (a3, .inl (cI, 300, .inl fd_23)), (oH, .inr (4, [.ref oP, .ref h1, .ref h2, .int lH])), (h1, .inl (cI, 6, .inl fH1)), (h2, .inl (cI, 6, .inl fH2)), (oP, .inr (7, [.ref oC, .ref nB, .int ft_23])), (nB, .inr (5, [.ref aB, .int lB_23])), (aB, .inl (cI, 2400, .inl fB_23)), (oC, .inr (2, [.ref o4, .ref o5])), (o4, .inr (10, [.ref a41, .ref a42, .ref a43, .int l4])), (a41, .inl (cI, 256, .inl f41)), (a42, .inl (cI, 512, .inl f42)), (a43, .inl (cI, 512, .inl f43)), (o5, .inr (10, [.ref a51, .ref a52, .ref a53, .int l5])), (a51, .inl (cI, 256, .inl f51)), (a52, .inl (cI, 512, .inl f52)), (a53, .inl (cI, 512, .inl f53))]) rfl (wn := [(oR, .inr (9, [.ref oH, .ref oK, .ref n1, .ref n2, .ref n3, .ref r1, .ref r2, .ref r3, .ref r4, .ref r5, .ref r6, .int lR])), (r1, .inl (cI, 258, .inl fxc)), (r2, .inl (cI, 258, .inl fyc)), (r3, .inl (cI, 774, .inl fzc)), (n1, .inr (5, [.ref a1, .int ld_4])), (a1, .inl (cI, 300, .inl fd_4)), (n2, .inr (5, [.ref a2, .int ld_12])), (a2, .inl (cI, 300, .inl fd_12)), (n3, .inr (5, [.ref a3, .int ld_23])), (a3, .inl (cI, 300, .inl fd_23)), (oH, .inr (4, [.ref oP, .ref h1, .ref h2, .int lH])), (h1, .inl (cI, 6, .inl fH1)), (h2, .inl (cI, 6, .inl fH2)), (oP, .inr (7, [.ref oC, .ref nB, .int ft_23])), (nB, .inr (5, [.ref aB, .int lB_23])), (aB, .inl (cI, 2400, .inl fB_23)), (oC, .inr (2, [.ref o4, .ref o5])), (o4, .inr (10, [.ref a41, .ref a42, .ref a43, .int l4])), (a41, .inl (cI, 256, .inl f41)), (a42, .inl (cI, 512, .inl f42)), (a43, .inl (cI, 512, .inl f43)), (o5, .inr (10, [.ref a51, .ref a52, .ref a53, .int l5])), (a51, .inl (cI, 256, .inl f51)), (a52, .inl (cI, 512, .inl f52)), (a53, .inl (cI, 512, .inl f53)), (oK, .inr (3, [.ref k1, .ref k2, .int lK])), (k1, .inl (cI, 1024, .inl fK1)), (k2, .inl (cI, 1024, .inl fK2)), (nx, .inr (5, [.ref ax, .int lx])), (ax, .inl (cI, 300, .inl fx))]) rfl
                            clear hP hD hS hJ hPD9
                            have hP := hPn
                            have hD := hDn
                            have hS := hSn
                            clear hPn hDn hSn
                            refine lv_if_eq (tgt := 210) hx hb dX9_find_165 (by decide) (fun c_24 => ?_) (fun c_24 => ?_)
                            · have tc_24 : r_23.toInt = 0 := v_eq c_24
                              obtain ⟨x_25, ex_25⟩ : ∃ y : Int32, y = fi + 1 := ⟨_, rfl⟩
                              have tx_25 : x_25.toInt = fi.toInt + 1 := v_addR (l2 := 1) (h2 := 1) ex_25 g_fi (by decide) (by decide) (by decide)
                              refine lv_iinc (v := x_25) (lv' := [(7, .int x_25), (5, .int mi), (4, .int la), (3, .int lH), (0, .ref oR), (1, .int n), (2, .ref nx)]) hx hb dX9_find_210 hl (k := 0) rfl (by rw [ex_25]; rfl) (by decide) rfl (fun ls hl => ?_)
                              refine lv_goto (tgt := 137) hx hb dX9_find_213 (by decide) ?_
                              exact ih_137 x_25 ft_23 lB_23 ld_23 fB_23 fd_23 fxc fyc fzc _ _ _ (ms_lt hm_137 (by show ((6 - x_25.toInt : Int)) < 6 - fi.toInt; omega) (by show (0 : Int) < 6 - fi.toInt; omega)) (by show 0 ≤ x_25.toInt ∧ x_25.toInt ≤ 6; omega) (hf23_0) (hf23_1) (by show x_25.toInt ≤ lH.toInt; omega) (rG1_f3 hU (c0 := fi.toNatClampNeg) hGc (fun j hj => hlt j (by omega)) (by omega) (by omega) (by omega) (by omega) hUa hUb (to_0 hf23_3 (by omega))) hP hD hS (lv_sub hl [0, 1, 2, 3, 4, 5, 6] rfl)
                            · have tc_24 : ¬ r_23.toInt = 0 := v_ne c_24
                              have hUc := to_1n hf23_3 (by omega)
                              have hpc := to_p hU hf23_3 (by omega) hpb
                              refine lv_iload_n hx hb dX9_find_168 rfl (lv_at hl 3 rfl) ?_
                              refine lv_iload_n hx hb dX9_find_169 rfl (lv_at hl 3 rfl) ?_
                              refine lv_iload_n hx hb dX9_find_170 rfl (lv_at hl 3 rfl) ?_
                              refine lv_imul hx hb dX9_find_171 ?_
                              refine lv_topi (fun x_26 ex_26 => ?_)
                              have tm_x_26 := v_mulz ex_26 (by omega) (by omega)
                              refine lv_iadd hx hb dX9_find_172 ?_
                              refine lv_topi (fun x_27 ex_27 => ?_)
                              have tx_27 : x_27.toInt = lH.toInt + x_26.toInt := v_add ex_27 (by show -2147483648 ≤ lH.toInt + x_26.toInt; omega) (by show lH.toInt + x_26.toInt < 2147483648; omega)
                              refine lv_iload hx hb dX9_find_173 (lv_at hl 0 rfl) ?_
                              refine lv_iload_n hx hb dX9_find_175 rfl (lv_at hl 3 rfl) ?_
                              refine lv_imul hx hb dX9_find_176 ?_
                              refine lv_topi (fun x_28 ex_28 => ?_)
                              have tm_x_28 := v_mulz ex_28 (by omega) (by omega)
                              have tn_x_28 := v_mulz5 ex_28 (by omega) (by omega)
                              refine lv_iload hx hb dX9_find_177 (lv_at hl 1 rfl) ?_
                              refine lv_iadd hx hb dX9_find_179 ?_
                              refine lv_topi (fun x_29 ex_29 => ?_)
                              have tx_29 : x_29.toInt = x_28.toInt + mi.toInt := v_add ex_29 (by show -2147483648 ≤ x_28.toInt + mi.toInt; omega) (by show x_28.toInt + mi.toInt < 2147483648; omega)
                              refine lv_iload_n hx hb dX9_find_180 rfl (lv_at hl 3 rfl) ?_
                              refine lv_imul hx hb dX9_find_181 ?_
                              refine lv_topi (fun x_30 ex_30 => ?_)
                              have tm_x_30 := v_mulz ex_30 (by omega) (by omega)
                              refine lv_iadd hx hb dX9_find_182 ?_
                              refine lv_topi (fun x_31 ex_31 => ?_)
                              have tx_31 : x_31.toInt = x_27.toInt + x_30.toInt := v_add ex_31 (by show -2147483648 ≤ x_27.toInt + x_30.toInt; omega) (by show x_27.toInt + x_30.toInt < 2147483648; omega)
                              refine lv_iload hx hb dX9_find_183 (lv_at hl 2 rfl) ?_
                              refine lv_iadd hx hb dX9_find_185 ?_
                              refine lv_topi (fun x_32 ex_32 => ?_)
                              have tx_32 : x_32.toInt = x_31.toInt + la.toInt := v_add ex_32 (by show -2147483648 ≤ x_31.toInt + la.toInt; omega) (by show x_31.toInt + la.toInt < 2147483648; omega)
                              refine lv_istore (lv' := [(8, .int x_32), (7, .int fi), (5, .int mi), (4, .int la), (3, .int lH), (0, .ref oR), (1, .int n), (2, .ref nx)]) hx hb dX9_find_186 hl (by decide) rfl (fun ls hl => ?_)
                              have hp3_x_32 := pl3_of (la := la) (mi := mi) (p := x_32) ex_26 ex_28 (by omega) ex_30 (by omega) (by omega) (by omega) (by omega) (by omega) (by omega)
                              have hb3_x_32 : x_32.toInt ≤ 257 := by have q9 := rp_max (z := lH.toNatClampNeg) (a := la.toNatClampNeg) (b := mi.toNatClampNeg) (c := fi.toNatClampNeg) (by omega) (by omega) (by omega) (by omega); rw [← hp3_x_32] at q9; have c9 := v_clamp (x := x_32) (by omega); omega
                              refine lv_aload_n hx hb dX9_find_188 rfl (lv_at hl 5 rfl) ?_
                              refine lv_iload hx hb dX9_find_189 (lv_at hl 0 rfl) ?_
                              refine lv_aload_n hx hb dX9_find_191 rfl (lv_at hl 5 rfl) ?_
                              refine va_get (D := (dC, dI)) (ci := 9) (v := .ref n3) (C := RX9) (T := TX9) (N := 12) hx hb hts in_X9 hown hK hP 0 rfl rfl 4 (Nat.le_of_ble_eq_true rfl) (hts (.fieldLink RX9 23 "TextMender$Rows" "three" "LTextMender$Numbers;") (List.mem_of_getElem? (i := 5) rfl)) (fun _ h9 => h9) rfl dX9_find_192 ?_
                              refine kV_v (rest := []) (q0 := 0) (ci := 9) hcf (f_X9_note l dC dI cI cS H.size oR n3 oH oK n1 n2 n3 r1 r2 r3 r4 r5 r6 k1 k2 a3 lR fxc fyc lK fK1 fK2 ld_23 fd_23 x_32 (g_lR) (g_lK) (hf23_1) (by omega) (hT) (ho) (hV) (hpc)) kc_X9_note gX9_find_X9_note rfl rfl rfl ⟨Nat.le_of_ble_eq_true rfl, Nat.le_of_ble_eq_true rfl⟩ kX_t hK hP hD hS hA ([0, 1, 2, 5, 6, 7, 3, 4].filterMap (fun j => (posT mk_35 0)[j]?)) (posF mk_35 0) (kCp (ws := [(oR, .inr (9, [.ref oH, .ref oK, .ref n1, .ref n2, .ref n3, .ref r1, .ref r2, .ref r3, .ref r4, .ref r5, .ref r6, .int lR])), (r1, .inl (cI, 258, .inl fxc)), (r2, .inl (cI, 258, .inl fyc)), (n3, .inr (5, [.ref a3, .int ld_23])), (a3, .inl (cI, 300, .inl fd_23)), (oK, .inr (3, [.ref k1, .ref k2, .int lK])), (k1, .inl (cI, 1024, .inl fK1)), (k2, .inl (cI, 1024, .inl fK2))]) (kC_of mk_35 rfl rfl) rfl) (by decide +kernel) rfl rfl rfl hl rfl (Nat.le_of_ble_eq_true rfl) dX9_find_195 ⟨Nat.le_of_ble_eq_true rfl, Nat.le_of_ble_eq_true rfl⟩ (fun H locs hB hJ hSn => ?_)
                              refine hB _ (fun fR1_33 fR2_33 hPD9 hf33_0 => ?_)
                              clear hB
                              obtain ⟨hPn, hDn⟩ := kJm (m := mk_35) hJ rfl hPD9.1 hPD9.2 [0, 1, 2, 6, 7, 3, 4, 5] (by decide +kernel) (ws := [(oR, .inr (9, [.ref oH, .ref oK, .ref n1, .ref n2, .ref n3, .ref r1, .ref r2, .ref r3, .ref r4, .ref r5, .ref r6, .int lR])), (r1, .inl (cI, 258, .inl fR1_33)), (r2, .inl (cI, 258, .inl fR2_33)), (n3, .inr (5, [.ref a3, .int ld_23])), (a3, .inl (cI, 300, .inl fd_23)), (oK, .inr (3, [.ref k1, .ref k2, .int lK])), (k1, .inl (cI, 1024, .inl fK1)), (k2, .inl (cI, 1024, .inl fK2))]) rfl (wn := [(oR, .inr (9, [.ref oH, .ref oK, .ref n1, .ref n2, .ref n3, .ref r1, .ref r2, .ref r3, .ref r4, .ref r5, .ref r6, .int lR])), (r1, .inl (cI, 258, .inl fR1_33)), (r2, .inl (cI, 258, .inl fR2_33)), (r3, .inl (cI, 774, .inl fzc)), (n1, .inr (5, [.ref a1, .int ld_4])), (a1, .inl (cI, 300, .inl fd_4)), (n2, .inr (5, [.ref a2, .int ld_12])), (a2, .inl (cI, 300, .inl fd_12)), (n3, .inr (5, [.ref a3, .int ld_23])), (a3, .inl (cI, 300, .inl fd_23)), (oH, .inr (4, [.ref oP, .ref h1, .ref h2, .int lH])), (h1, .inl (cI, 6, .inl fH1)), (h2, .inl (cI, 6, .inl fH2)), (oP, .inr (7, [.ref oC, .ref nB, .int ft_23])), (nB, .inr (5, [.ref aB, .int lB_23])), (aB, .inl (cI, 2400, .inl fB_23)), (oC, .inr (2, [.ref o4, .ref o5])), (o4, .inr (10, [.ref a41, .ref a42, .ref a43, .int l4])), (a41, .inl (cI, 256, .inl f41)), (a42, .inl (cI, 512, .inl f42)), (a43, .inl (cI, 512, .inl f43)), (o5, .inr (10, [.ref a51, .ref a52, .ref a53, .int l5])), (a51, .inl (cI, 256, .inl f51)), (a52, .inl (cI, 512, .inl f52)), (a53, .inl (cI, 512, .inl f53)), (oK, .inr (3, [.ref k1, .ref k2, .int lK])), (k1, .inl (cI, 1024, .inl fK1)), (k2, .inl (cI, 1024, .inl fK2)), (nx, .inr (5, [.ref ax, .int lx])), (ax, .inl (cI, 300, .inl fx))]) rfl
                              clear hP hD hS hJ hPD9
                              have hP := hPn
                              have hD := hDn
                              have hS := hSn
                              clear hPn hDn hSn
                              refine lv_aload_n hx hb dX9_find_198 rfl (lv_at hl 5 rfl) ?_
                              refine lv_iload hx hb dX9_find_199 (lv_at hl 0 rfl) ?_
                              refine lv_iload hx hb dX9_find_201 (lv_at hl 1 rfl) ?_
                              refine lv_iload hx hb dX9_find_203 (lv_at hl 2 rfl) ?_
                              refine lv_iload hx hb dX9_find_205 (lv_at hl 3 rfl) ?_
                              refine kV_v (rest := []) (q0 := 0) (ci := 9) hcf (f_X9_nameHarms l dC dI cI cS H.size oR oH oK n1 n2 n3 r1 r2 r3 r4 r5 r6 lR fzc x_32 fi mi la (g_lR) (by omega)) kc_X9_nameHarms gX9_find_X9_nameHarms rfl rfl rfl ⟨Nat.le_of_ble_eq_true rfl, Nat.le_of_ble_eq_true rfl⟩ kX_t hK hP hD hS hA (posT mk_31 0) (posF mk_31 0) (kC_of mk_31 rfl rfl) (by decide +kernel) rfl rfl rfl hl rfl (Nat.le_of_ble_eq_true rfl) dX9_find_207 ⟨Nat.le_of_ble_eq_true rfl, Nat.le_of_ble_eq_true rfl⟩ (fun H locs hB hJ hSn => ?_)
                              refine hB _ (fun fR3_34 hPD9 hf34_0 => ?_)
                              clear hB
                              obtain ⟨hPn, hDn⟩ := kJi (m := mk_31) hJ rfl hPD9.1 hPD9.2 (wn := [(oR, .inr (9, [.ref oH, .ref oK, .ref n1, .ref n2, .ref n3, .ref r1, .ref r2, .ref r3, .ref r4, .ref r5, .ref r6, .int lR])), (r1, .inl (cI, 258, .inl fR1_33)), (r2, .inl (cI, 258, .inl fR2_33)), (r3, .inl (cI, 774, .inl fR3_34)), (n1, .inr (5, [.ref a1, .int ld_4])), (a1, .inl (cI, 300, .inl fd_4)), (n2, .inr (5, [.ref a2, .int ld_12])), (a2, .inl (cI, 300, .inl fd_12)), (n3, .inr (5, [.ref a3, .int ld_23])), (a3, .inl (cI, 300, .inl fd_23)), (oH, .inr (4, [.ref oP, .ref h1, .ref h2, .int lH])), (h1, .inl (cI, 6, .inl fH1)), (h2, .inl (cI, 6, .inl fH2)), (oP, .inr (7, [.ref oC, .ref nB, .int ft_23])), (nB, .inr (5, [.ref aB, .int lB_23])), (aB, .inl (cI, 2400, .inl fB_23)), (oC, .inr (2, [.ref o4, .ref o5])), (o4, .inr (10, [.ref a41, .ref a42, .ref a43, .int l4])), (a41, .inl (cI, 256, .inl f41)), (a42, .inl (cI, 512, .inl f42)), (a43, .inl (cI, 512, .inl f43)), (o5, .inr (10, [.ref a51, .ref a52, .ref a53, .int l5])), (a51, .inl (cI, 256, .inl f51)), (a52, .inl (cI, 512, .inl f52)), (a53, .inl (cI, 512, .inl f53)), (oK, .inr (3, [.ref k1, .ref k2, .int lK])), (k1, .inl (cI, 1024, .inl fK1)), (k2, .inl (cI, 1024, .inl fK2)), (nx, .inr (5, [.ref ax, .int lx])), (ax, .inl (cI, 300, .inl fx))]) rfl
                              clear hP hD hS hJ hPD9
                              have hP := hPn
                              have hD := hDn
                              have hS := hSn
                              clear hPn hDn hSn
                              obtain ⟨wc, hwc, hxc, hyc⟩ := wp_of hf33_0 hf34_0 (by omega)
                              obtain ⟨x_35, ex_35⟩ : ∃ y : Int32, y = fi + 1 := ⟨_, rfl⟩
                              have tx_35 : x_35.toInt = fi.toInt + 1 := v_addR (l2 := 1) (h2 := 1) ex_35 g_fi (by decide) (by decide) (by decide)
                              refine lv_iinc (v := x_35) (lv' := [(7, .int x_35), (8, .int x_32), (5, .int mi), (4, .int la), (3, .int lH), (0, .ref oR), (1, .int n), (2, .ref nx)]) hx hb dX9_find_210 hl (k := 1) rfl (by rw [ex_35]; rfl) (by decide) rfl (fun ls hl => ?_)
                              refine lv_goto (tgt := 137) hx hb dX9_find_213 (by decide) ?_
                              exact ih_137 x_35 ft_23 lB_23 ld_23 fB_23 fd_23 fR1_33 fR2_33 fR3_34 _ _ _ (ms_lt hm_137 (by show ((6 - x_35.toInt : Int)) < 6 - fi.toInt; omega) (by show (0 : Int) < 6 - fi.toInt; omega)) (by show 0 ≤ x_35.toInt ∧ x_35.toInt ≤ 6; omega) (hf23_0) (hf23_1) (by show x_35.toInt ≤ lH.toInt; omega) (rG1_w3 hGc (by omega) (by omega) (by omega) (by omega) (by omega) (by omega) (by omega) (by omega) (by omega) hp3_x_32 hwc hUa hUb hUc hxc hyc (by omega) (by omega) (by omega) (by omega)) hP hD hS (lv_sub hl [0, 2, 3, 4, 5, 6, 7] rfl)
                    exact LOOP_137 _ 0 ft_12 lB_12 lhb fB_12 fhb fR1_17 fR2_17 fR3_18 _ _ _ (ms_s _) (by decide) (hf12_0) (g_lhb) (by show 0 ≤ lH.toInt; omega) (rG1_w2 hGb (by omega) (by omega) (by omega) (by omega) (by omega) (by omega) rfl hp2_x_16 hwb hUa hUb hxb hyb (by omega) (by omega) (by omega) rfl) hP hD hS (lv_sub hl [0, 2, 3, 4, 5, 6, 7] rfl)
                  · have tc_13 : r_12.toInt = 0 := v_eq c_13
                    refine lv_goto (tgt := 216) hx hb dX9_find_99 (by decide) ?_
                    obtain ⟨x_36, ex_36⟩ : ∃ y : Int32, y = mi + 1 := ⟨_, rfl⟩
                    have tx_36 : x_36.toInt = mi.toInt + 1 := v_addR (l2 := 1) (h2 := 1) ex_36 g_mi (by decide) (by decide) (by decide)
                    refine lv_iinc (v := x_36) (lv' := [(5, .int x_36), (4, .int la), (3, .int lH), (0, .ref oR), (1, .int n), (2, .ref nx)]) hx hb dX9_find_216 hl (k := 0) rfl (by rw [ex_36]; rfl) (by decide) rfl (fun ls hl => ?_)
                    refine lv_goto (tgt := 68) hx hb dX9_find_219 (by decide) ?_
                    exact ih_68 x_36 ft_12 lB_12 ld_12 lhb fB_12 fd_12 fhb fxb fyb fzb _ _ _ (ms_lt hm_68 (by show ((6 - x_36.toInt : Int)) < 6 - mi.toInt; omega) (by show (0 : Int) < 6 - mi.toInt; omega)) (by show 0 ≤ x_36.toInt ∧ x_36.toInt ≤ 6; omega) (hf12_0) (hf12_1) (g_lhb) (by show x_36.toInt ≤ lH.toInt; omega) (rG1_f2 hU (b0 := mi.toNatClampNeg) hGb (fun j hj => hlt j (by omega)) (by omega) (by omega) (by omega) hUa (to_0 hf12_3 (by omega))) hP hD hS (lv_sub hl [0, 1, 2, 3, 4, 5] rfl)
          exact LOOP_68 _ 0 ft_4 lB_4 lta lha fB_4 ft_a fha fR1_6 fR2_6 fR3_7 _ _ _ (ms_s _) (by decide) (hf4_0) (g_lta) (g_lha) (by show 0 ≤ lH.toInt; omega) (rG1_w1 hG (by omega) (by omega) (by omega) rfl rfl hwa hUa hxa hya (by omega) (by omega) rfl rfl) hP hD hS (lv_sub hl [0, 1, 2, 3, 4, 5] rfl)
        · have tc_5 : r_4.toInt = 0 := v_eq c_5
          refine lv_goto (tgt := 222) hx hb dX9_find_42 (by decide) ?_
          obtain ⟨x_37, ex_37⟩ : ∃ y : Int32, y = la + 1 := ⟨_, rfl⟩
          have tx_37 : x_37.toInt = la.toInt + 1 := v_addR (l2 := 1) (h2 := 1) ex_37 g_la (by decide) (by decide) (by decide)
          refine lv_iinc (v := x_37) (lv' := [(4, .int x_37), (3, .int lH), (0, .ref oR), (1, .int n), (2, .ref nx)]) hx hb dX9_find_222 hl (k := 0) rfl (by rw [ex_37]; rfl) (by decide) rfl (fun ls hl => ?_)
          refine lv_goto (tgt := 19) hx hb dX9_find_225 (by decide) ?_
          exact ih_19 x_37 ft_4 lB_4 ld_4 lta lha fB_4 fd_4 ft_a fha fxa fya fza _ _ _ (ms_lt hm_19 (by show ((6 - x_37.toInt : Int)) < 6 - la.toInt; omega) (by show (0 : Int) < 6 - la.toInt; omega)) (by show 0 ≤ x_37.toInt ∧ x_37.toInt ≤ 6; omega) (hf4_0) (hf4_1) (g_lta) (g_lha) (by show x_37.toInt ≤ lH.toInt; omega) (rG1_f1 (a0 := la.toNatClampNeg) hG (by omega) (by omega) (to_0 hf4_3 (by omega))) hP hD hS (lv_sub hl [0, 1, 2, 3, 4] rfl)
  exact LOOP_19 _ 0 ft lB l1 l2 l3 fB f1 f2 f3 f_1 fR2 fR3 _ _ _ (ms_s _) (by decide) (g_lB) (g_l1) (g_l2) (g_l3) (by show 0 ≤ lH.toInt; omega) (rG1_0 (by omega) rfl (fun j hj => hf1_0 j (by omega))) hP hD hS (lv_sub hl [0, 1, 2, 3, 4] rfl)

end

/-! 59s.a.rows -/
section
set_option maxRecDepth 100000 in
theorem dA259_cX9_cheapest : kDec cX9_cheapest [(0, .iconst (-1), 1), (1, .istore_n 1, 1), (2, .iconst 0, 1), (3, .istore_n 2, 1), (4, .iload_n 2, 1), (5, .sipush 258, 3), (8, .if_icmp .ge 41, 3), (49, .iload_n 1, 1), (50, .ireturn, 1), (11, .aload_n 0, 1), (12, .getfield 26, 3), (15, .iload_n 2, 1), (16, .iaload, 1), (17, .iconst (-1), 1), (18, .if_icmp .eq 25, 3), (43, .iinc 2 1, 3), (46, .goto (-42), 3), (21, .iload_n 1, 1), (22, .iconst (-1), 1), (23, .if_icmp .eq 18, 3), (41, .iload_n 2, 1), (42, .istore_n 1, 1), (26, .aload_n 0, 1), (27, .getfield 26, 3)] = true := by decide +kernel
theorem dX9_cheapest_0 : decode cX9_cheapest 0 = .ok (.iconst (-1), 1) := kDec_at dA259_cX9_cheapest 0 rfl
theorem dX9_cheapest_1 : decode cX9_cheapest 1 = .ok (.istore_n 1, 1) := kDec_at dA259_cX9_cheapest 1 rfl
theorem dX9_cheapest_2 : decode cX9_cheapest 2 = .ok (.iconst 0, 1) := kDec_at dA259_cX9_cheapest 2 rfl
theorem dX9_cheapest_3 : decode cX9_cheapest 3 = .ok (.istore_n 2, 1) := kDec_at dA259_cX9_cheapest 3 rfl
theorem dX9_cheapest_4 : decode cX9_cheapest 4 = .ok (.iload_n 2, 1) := kDec_at dA259_cX9_cheapest 4 rfl
theorem dX9_cheapest_5 : decode cX9_cheapest 5 = .ok (.sipush 258, 3) := kDec_at dA259_cX9_cheapest 5 rfl
theorem dX9_cheapest_8 : decode cX9_cheapest 8 = .ok (.if_icmp .ge 41, 3) := kDec_at dA259_cX9_cheapest 6 rfl
theorem dX9_cheapest_49 : decode cX9_cheapest 49 = .ok (.iload_n 1, 1) := kDec_at dA259_cX9_cheapest 7 rfl
theorem dX9_cheapest_50 : decode cX9_cheapest 50 = .ok (.ireturn, 1) := kDec_at dA259_cX9_cheapest 8 rfl
theorem dX9_cheapest_11 : decode cX9_cheapest 11 = .ok (.aload_n 0, 1) := kDec_at dA259_cX9_cheapest 9 rfl
theorem dX9_cheapest_12 : decode cX9_cheapest 12 = .ok (.getfield 26, 3) := kDec_at dA259_cX9_cheapest 10 rfl
theorem dX9_cheapest_15 : decode cX9_cheapest 15 = .ok (.iload_n 2, 1) := kDec_at dA259_cX9_cheapest 11 rfl
theorem dX9_cheapest_16 : decode cX9_cheapest 16 = .ok (.iaload, 1) := kDec_at dA259_cX9_cheapest 12 rfl
theorem dX9_cheapest_17 : decode cX9_cheapest 17 = .ok (.iconst (-1), 1) := kDec_at dA259_cX9_cheapest 13 rfl
theorem dX9_cheapest_18 : decode cX9_cheapest 18 = .ok (.if_icmp .eq 25, 3) := kDec_at dA259_cX9_cheapest 14 rfl
theorem dX9_cheapest_43 : decode cX9_cheapest 43 = .ok (.iinc 2 1, 3) := kDec_at dA259_cX9_cheapest 15 rfl
theorem dX9_cheapest_46 : decode cX9_cheapest 46 = .ok (.goto (-42), 3) := kDec_at dA259_cX9_cheapest 16 rfl
theorem dX9_cheapest_21 : decode cX9_cheapest 21 = .ok (.iload_n 1, 1) := kDec_at dA259_cX9_cheapest 17 rfl
theorem dX9_cheapest_22 : decode cX9_cheapest 22 = .ok (.iconst (-1), 1) := kDec_at dA259_cX9_cheapest 18 rfl
theorem dX9_cheapest_23 : decode cX9_cheapest 23 = .ok (.if_icmp .eq 18, 3) := kDec_at dA259_cX9_cheapest 19 rfl
theorem dX9_cheapest_41 : decode cX9_cheapest 41 = .ok (.iload_n 2, 1) := kDec_at dA259_cX9_cheapest 20 rfl
theorem dX9_cheapest_42 : decode cX9_cheapest 42 = .ok (.istore_n 1, 1) := kDec_at dA259_cX9_cheapest 21 rfl
theorem dX9_cheapest_26 : decode cX9_cheapest 26 = .ok (.aload_n 0, 1) := kDec_at dA259_cX9_cheapest 22 rfl
theorem dX9_cheapest_27 : decode cX9_cheapest 27 = .ok (.getfield 26, 3) := kDec_at dA259_cX9_cheapest 23 rfl
set_option maxRecDepth 100000 in
theorem dA260_cX9_cheapest : kDec cX9_cheapest [(30, .iload_n 2, 1), (31, .iaload, 1), (32, .aload_n 0, 1), (33, .getfield 26, 3), (36, .iload_n 1, 1), (37, .iaload, 1), (38, .if_icmp .ge 5, 3)] = true := by decide +kernel
theorem dX9_cheapest_30 : decode cX9_cheapest 30 = .ok (.iload_n 2, 1) := kDec_at dA260_cX9_cheapest 0 rfl
theorem dX9_cheapest_31 : decode cX9_cheapest 31 = .ok (.iaload, 1) := kDec_at dA260_cX9_cheapest 1 rfl
theorem dX9_cheapest_32 : decode cX9_cheapest 32 = .ok (.aload_n 0, 1) := kDec_at dA260_cX9_cheapest 2 rfl
theorem dX9_cheapest_33 : decode cX9_cheapest 33 = .ok (.getfield 26, 3) := kDec_at dA260_cX9_cheapest 3 rfl
theorem dX9_cheapest_36 : decode cX9_cheapest 36 = .ok (.iload_n 1, 1) := kDec_at dA260_cX9_cheapest 4 rfl
theorem dX9_cheapest_37 : decode cX9_cheapest 37 = .ok (.iaload, 1) := kDec_at dA260_cX9_cheapest 5 rfl
theorem dX9_cheapest_38 : decode cX9_cheapest 38 = .ok (.if_icmp .ge 5, 3) := kDec_at dA260_cX9_cheapest 6 rfl
set_option maxRecDepth 100000 in
theorem dA261_cX9_costAt : kDec cX9_costAt [(0, .iload_n 1, 1), (1, .ifCond .lt 19, 3), (4, .iload_n 1, 1), (5, .sipush 258, 3), (8, .if_icmp .ge 12, 3), (11, .aload_n 0, 1), (12, .getfield 26, 3), (15, .iload_n 1, 1), (16, .iaload, 1), (17, .goto 4, 3), (21, .ireturn, 1)] = true := by decide +kernel
theorem dX9_costAt_0 : decode cX9_costAt 0 = .ok (.iload_n 1, 1) := kDec_at dA261_cX9_costAt 0 rfl
theorem dX9_costAt_1 : decode cX9_costAt 1 = .ok (.ifCond .lt 19, 3) := kDec_at dA261_cX9_costAt 1 rfl
theorem dX9_costAt_4 : decode cX9_costAt 4 = .ok (.iload_n 1, 1) := kDec_at dA261_cX9_costAt 2 rfl
theorem dX9_costAt_5 : decode cX9_costAt 5 = .ok (.sipush 258, 3) := kDec_at dA261_cX9_costAt 3 rfl
theorem dX9_costAt_8 : decode cX9_costAt 8 = .ok (.if_icmp .ge 12, 3) := kDec_at dA261_cX9_costAt 4 rfl
theorem dX9_costAt_11 : decode cX9_costAt 11 = .ok (.aload_n 0, 1) := kDec_at dA261_cX9_costAt 5 rfl
theorem dX9_costAt_12 : decode cX9_costAt 12 = .ok (.getfield 26, 3) := kDec_at dA261_cX9_costAt 6 rfl
theorem dX9_costAt_15 : decode cX9_costAt 15 = .ok (.iload_n 1, 1) := kDec_at dA261_cX9_costAt 7 rfl
theorem dX9_costAt_16 : decode cX9_costAt 16 = .ok (.iaload, 1) := kDec_at dA261_cX9_costAt 8 rfl
theorem dX9_costAt_17 : decode cX9_costAt 17 = .ok (.goto 4, 3) := kDec_at dA261_cX9_costAt 9 rfl
theorem dX9_costAt_21 : decode cX9_costAt 21 = .ok (.ireturn, 1) := kDec_at dA261_cX9_costAt 10 rfl
set_option maxRecDepth 100000 in
theorem dA262_cX9_numberOf : kDec cX9_numberOf [(0, .iconst 0, 1), (1, .istore_n 2, 1), (2, .iconst 0, 1), (3, .istore_n 3, 1), (4, .iload_n 3, 1), (5, .iload_n 1, 1), (6, .if_icmp .ge 29, 3), (35, .iload_n 2, 1), (36, .ireturn, 1), (9, .iload_n 3, 1), (10, .sipush 258, 3), (13, .if_icmp .ge 22, 3), (16, .aload_n 0, 1), (17, .getfield 26, 3), (20, .iload_n 3, 1), (21, .iaload, 1), (22, .iconst (-1), 1), (23, .if_icmp .eq 6, 3), (29, .iinc 3 1, 3), (32, .goto (-28), 3), (26, .iinc 2 1, 3)] = true := by decide +kernel
theorem dX9_numberOf_0 : decode cX9_numberOf 0 = .ok (.iconst 0, 1) := kDec_at dA262_cX9_numberOf 0 rfl
theorem dX9_numberOf_1 : decode cX9_numberOf 1 = .ok (.istore_n 2, 1) := kDec_at dA262_cX9_numberOf 1 rfl
theorem dX9_numberOf_2 : decode cX9_numberOf 2 = .ok (.iconst 0, 1) := kDec_at dA262_cX9_numberOf 2 rfl
theorem dX9_numberOf_3 : decode cX9_numberOf 3 = .ok (.istore_n 3, 1) := kDec_at dA262_cX9_numberOf 3 rfl
theorem dX9_numberOf_4 : decode cX9_numberOf 4 = .ok (.iload_n 3, 1) := kDec_at dA262_cX9_numberOf 4 rfl
theorem dX9_numberOf_5 : decode cX9_numberOf 5 = .ok (.iload_n 1, 1) := kDec_at dA262_cX9_numberOf 5 rfl
theorem dX9_numberOf_6 : decode cX9_numberOf 6 = .ok (.if_icmp .ge 29, 3) := kDec_at dA262_cX9_numberOf 6 rfl
theorem dX9_numberOf_35 : decode cX9_numberOf 35 = .ok (.iload_n 2, 1) := kDec_at dA262_cX9_numberOf 7 rfl
theorem dX9_numberOf_36 : decode cX9_numberOf 36 = .ok (.ireturn, 1) := kDec_at dA262_cX9_numberOf 8 rfl
theorem dX9_numberOf_9 : decode cX9_numberOf 9 = .ok (.iload_n 3, 1) := kDec_at dA262_cX9_numberOf 9 rfl
theorem dX9_numberOf_10 : decode cX9_numberOf 10 = .ok (.sipush 258, 3) := kDec_at dA262_cX9_numberOf 10 rfl
theorem dX9_numberOf_13 : decode cX9_numberOf 13 = .ok (.if_icmp .ge 22, 3) := kDec_at dA262_cX9_numberOf 11 rfl
theorem dX9_numberOf_16 : decode cX9_numberOf 16 = .ok (.aload_n 0, 1) := kDec_at dA262_cX9_numberOf 12 rfl
theorem dX9_numberOf_17 : decode cX9_numberOf 17 = .ok (.getfield 26, 3) := kDec_at dA262_cX9_numberOf 13 rfl
theorem dX9_numberOf_20 : decode cX9_numberOf 20 = .ok (.iload_n 3, 1) := kDec_at dA262_cX9_numberOf 14 rfl
theorem dX9_numberOf_21 : decode cX9_numberOf 21 = .ok (.iaload, 1) := kDec_at dA262_cX9_numberOf 15 rfl
theorem dX9_numberOf_22 : decode cX9_numberOf 22 = .ok (.iconst (-1), 1) := kDec_at dA262_cX9_numberOf 16 rfl
theorem dX9_numberOf_23 : decode cX9_numberOf 23 = .ok (.if_icmp .eq 6, 3) := kDec_at dA262_cX9_numberOf 17 rfl
theorem dX9_numberOf_29 : decode cX9_numberOf 29 = .ok (.iinc 3 1, 3) := kDec_at dA262_cX9_numberOf 18 rfl
theorem dX9_numberOf_32 : decode cX9_numberOf 32 = .ok (.goto (-28), 3) := kDec_at dA262_cX9_numberOf 19 rfl
theorem dX9_numberOf_26 : decode cX9_numberOf 26 = .ok (.iinc 2 1, 3) := kDec_at dA262_cX9_numberOf 20 rfl
set_option maxRecDepth 100000 in
theorem dA263_cX9_build : kDec cX9_build [(0, .iload_n 1, 1), (1, .ifCond .lt 10, 3), (4, .iload_n 1, 1), (5, .sipush 258, 3), (8, .if_icmp .lt 5, 3), (13, .aload_n 0, 1), (14, .getfield 14, 3), (17, .aload_n 2, 1), (18, .invokevirtual 88, 3), (21, .pop, 1), (22, .iconst 2, 1), (23, .istore 4, 2), (25, .iload 4, 2), (27, .ifCond .lt 62, 3), (89, .aload_n 3, 1), (90, .aload_n 0, 1), (91, .getfield 14, 3), (94, .invokevirtual 88, 3), (97, .ireturn, 1), (30, .aload_n 0, 1), (31, .getfield 33, 3), (34, .iload_n 1, 1), (35, .iconst 3, 1), (36, .imul, 1)] = true := by decide +kernel
theorem dX9_build_0 : decode cX9_build 0 = .ok (.iload_n 1, 1) := kDec_at dA263_cX9_build 0 rfl
theorem dX9_build_1 : decode cX9_build 1 = .ok (.ifCond .lt 10, 3) := kDec_at dA263_cX9_build 1 rfl
theorem dX9_build_4 : decode cX9_build 4 = .ok (.iload_n 1, 1) := kDec_at dA263_cX9_build 2 rfl
theorem dX9_build_5 : decode cX9_build 5 = .ok (.sipush 258, 3) := kDec_at dA263_cX9_build 3 rfl
theorem dX9_build_8 : decode cX9_build 8 = .ok (.if_icmp .lt 5, 3) := kDec_at dA263_cX9_build 4 rfl
theorem dX9_build_13 : decode cX9_build 13 = .ok (.aload_n 0, 1) := kDec_at dA263_cX9_build 5 rfl
theorem dX9_build_14 : decode cX9_build 14 = .ok (.getfield 14, 3) := kDec_at dA263_cX9_build 6 rfl
theorem dX9_build_17 : decode cX9_build 17 = .ok (.aload_n 2, 1) := kDec_at dA263_cX9_build 7 rfl
theorem dX9_build_18 : decode cX9_build 18 = .ok (.invokevirtual 88, 3) := kDec_at dA263_cX9_build 8 rfl
theorem dX9_build_21 : decode cX9_build 21 = .ok (.pop, 1) := kDec_at dA263_cX9_build 9 rfl
theorem dX9_build_22 : decode cX9_build 22 = .ok (.iconst 2, 1) := kDec_at dA263_cX9_build 10 rfl
theorem dX9_build_23 : decode cX9_build 23 = .ok (.istore 4, 2) := kDec_at dA263_cX9_build 11 rfl
theorem dX9_build_25 : decode cX9_build 25 = .ok (.iload 4, 2) := kDec_at dA263_cX9_build 12 rfl
theorem dX9_build_27 : decode cX9_build 27 = .ok (.ifCond .lt 62, 3) := kDec_at dA263_cX9_build 13 rfl
theorem dX9_build_89 : decode cX9_build 89 = .ok (.aload_n 3, 1) := kDec_at dA263_cX9_build 14 rfl
theorem dX9_build_90 : decode cX9_build 90 = .ok (.aload_n 0, 1) := kDec_at dA263_cX9_build 15 rfl
theorem dX9_build_91 : decode cX9_build 91 = .ok (.getfield 14, 3) := kDec_at dA263_cX9_build 16 rfl
theorem dX9_build_94 : decode cX9_build 94 = .ok (.invokevirtual 88, 3) := kDec_at dA263_cX9_build 17 rfl
theorem dX9_build_97 : decode cX9_build 97 = .ok (.ireturn, 1) := kDec_at dA263_cX9_build 18 rfl
theorem dX9_build_30 : decode cX9_build 30 = .ok (.aload_n 0, 1) := kDec_at dA263_cX9_build 19 rfl
theorem dX9_build_31 : decode cX9_build 31 = .ok (.getfield 33, 3) := kDec_at dA263_cX9_build 20 rfl
theorem dX9_build_34 : decode cX9_build 34 = .ok (.iload_n 1, 1) := kDec_at dA263_cX9_build 21 rfl
theorem dX9_build_35 : decode cX9_build 35 = .ok (.iconst 3, 1) := kDec_at dA263_cX9_build 22 rfl
theorem dX9_build_36 : decode cX9_build 36 = .ok (.imul, 1) := kDec_at dA263_cX9_build 23 rfl
set_option maxRecDepth 20000 in
theorem ggX9_build_X5_takeAll : GoodIn wsX9_build wsX5_takeAll := goodIn_sub (fun _ h => List.mem_cons_of_mem _ (List.mem_append_left _ (List.mem_append_right _ (h)))) gX5_takeAll_all
set_option maxRecDepth 20000 in
theorem gX9_build_X5_takeAll : GoodIn wsX9_build (wsV RX9 88 RX5 yX5_takeAll wsX5_takeAll) := goodIn_app (goodIn_r _ [5, 6, 7, 8] rfl (by decide +kernel)) ggX9_build_X5_takeAll
set_option maxRecDepth 100000 in
theorem dA264_cX9_build : kDec cX9_build [(37, .iload 4, 2), (39, .iadd, 1), (40, .iaload, 1), (41, .istore 5, 2), (43, .iload 5, 2), (45, .iconst (-1), 1), (46, .if_icmp .eq 37, 3), (83, .iinc 4 (-1), 3), (86, .goto (-61), 3), (49, .aload_n 0, 1), (50, .getfield 45, 3), (53, .iload 5, 2), (55, .aload_n 0, 1), (56, .getfield 14, 3), (59, .aload_n 0, 1), (60, .getfield 20, 3), (63, .invokevirtual 69, 3), (66, .ifCond .ne 5, 3), (71, .aload_n 0, 1), (72, .getfield 14, 3), (75, .aload_n 0, 1), (76, .getfield 20, 3), (79, .invokevirtual 88, 3), (82, .pop, 1)] = true := by decide +kernel
theorem dX9_build_37 : decode cX9_build 37 = .ok (.iload 4, 2) := kDec_at dA264_cX9_build 0 rfl
theorem dX9_build_39 : decode cX9_build 39 = .ok (.iadd, 1) := kDec_at dA264_cX9_build 1 rfl
theorem dX9_build_40 : decode cX9_build 40 = .ok (.iaload, 1) := kDec_at dA264_cX9_build 2 rfl
theorem dX9_build_41 : decode cX9_build 41 = .ok (.istore 5, 2) := kDec_at dA264_cX9_build 3 rfl
theorem dX9_build_43 : decode cX9_build 43 = .ok (.iload 5, 2) := kDec_at dA264_cX9_build 4 rfl
theorem dX9_build_45 : decode cX9_build 45 = .ok (.iconst (-1), 1) := kDec_at dA264_cX9_build 5 rfl
theorem dX9_build_46 : decode cX9_build 46 = .ok (.if_icmp .eq 37, 3) := kDec_at dA264_cX9_build 6 rfl
theorem dX9_build_83 : decode cX9_build 83 = .ok (.iinc 4 (-1), 3) := kDec_at dA264_cX9_build 7 rfl
theorem dX9_build_86 : decode cX9_build 86 = .ok (.goto (-61), 3) := kDec_at dA264_cX9_build 8 rfl
theorem dX9_build_49 : decode cX9_build 49 = .ok (.aload_n 0, 1) := kDec_at dA264_cX9_build 9 rfl
theorem dX9_build_50 : decode cX9_build 50 = .ok (.getfield 45, 3) := kDec_at dA264_cX9_build 10 rfl
theorem dX9_build_53 : decode cX9_build 53 = .ok (.iload 5, 2) := kDec_at dA264_cX9_build 11 rfl
theorem dX9_build_55 : decode cX9_build 55 = .ok (.aload_n 0, 1) := kDec_at dA264_cX9_build 12 rfl
theorem dX9_build_56 : decode cX9_build 56 = .ok (.getfield 14, 3) := kDec_at dA264_cX9_build 13 rfl
theorem dX9_build_59 : decode cX9_build 59 = .ok (.aload_n 0, 1) := kDec_at dA264_cX9_build 14 rfl
theorem dX9_build_60 : decode cX9_build 60 = .ok (.getfield 20, 3) := kDec_at dA264_cX9_build 15 rfl
theorem dX9_build_63 : decode cX9_build 63 = .ok (.invokevirtual 69, 3) := kDec_at dA264_cX9_build 16 rfl
theorem dX9_build_66 : decode cX9_build 66 = .ok (.ifCond .ne 5, 3) := kDec_at dA264_cX9_build 17 rfl
theorem dX9_build_71 : decode cX9_build 71 = .ok (.aload_n 0, 1) := kDec_at dA264_cX9_build 18 rfl
theorem dX9_build_72 : decode cX9_build 72 = .ok (.getfield 14, 3) := kDec_at dA264_cX9_build 19 rfl
theorem dX9_build_75 : decode cX9_build 75 = .ok (.aload_n 0, 1) := kDec_at dA264_cX9_build 20 rfl
theorem dX9_build_76 : decode cX9_build 76 = .ok (.getfield 20, 3) := kDec_at dA264_cX9_build 21 rfl
theorem dX9_build_79 : decode cX9_build 79 = .ok (.invokevirtual 88, 3) := kDec_at dA264_cX9_build 22 rfl
theorem dX9_build_82 : decode cX9_build 82 = .ok (.pop, 1) := kDec_at dA264_cX9_build 23 rfl
set_option maxRecDepth 20000 in
theorem ggX9_build_X4_takeOff : GoodIn wsX9_build wsX4_takeOff := goodIn_sub (fun _ h => List.mem_cons_of_mem _ (List.mem_append_right _ (h))) gX4_takeOff_all
set_option maxRecDepth 20000 in
theorem gX9_build_X4_takeOff : GoodIn wsX9_build (wsV RX9 69 RX4 yX4_takeOff wsX4_takeOff) := goodIn_app (goodIn_r _ [9, 10, 11, 12] rfl (by decide +kernel)) ggX9_build_X4_takeOff
set_option maxRecDepth 100000 in
theorem dA265_cX9_build : kDec cX9_build [(69, .iconst 0, 1), (70, .ireturn, 1)] = true := by decide +kernel
theorem dX9_build_69 : decode cX9_build 69 = .ok (.iconst 0, 1) := kDec_at dA265_cX9_build 0 rfl
theorem dX9_build_70 : decode cX9_build 70 = .ok (.ireturn, 1) := kDec_at dA265_cX9_build 1 rfl

end

/-! 59s.rows -/
section
theorem CHq_n {R : Nat → Int32} {m m' be : Int} (h : CHq R m be) (e : m = m') : CHq R m' be := by rw [← e]; exact h

set_option maxHeartbeats 40000000 in
set_option maxRecDepth 100000 in
theorem f_X9_cheapest (l : Launch) (dC : Nat → ClassId) (dI : Nat → Nat → Nat) (cI cS : ClassId) (sz : Nat) (oR : Nat) (oH : Nat) (oK : Nat) (n1 : Nat) (n2 : Nat) (n3 : Nat) (r1 : Nat) (r2 : Nat) (r3 : Nat) (r4 : Nat) (r5 : Nat) (r6 : Nat) (lR : Int32) (fR1 : Nat → Int32) (g_lR : 0 ≤ lR.toInt ∧ lR.toInt ≤ 258) : kMi l yX9_cheapest wsX9_cheapest ({ frames := 0, cells := 0, slots := 0, locals := 0 } : Room) [.ref oR] sz (dC, dI) vwCl [(cI, .int), (cS, .short)] [(oR, .inr (9, [.ref oH, .ref oK, .ref n1, .ref n2, .ref n3, .ref r1, .ref r2, .ref r3, .ref r4, .ref r5, .ref r6, .int lR])), (r1, .inl (cI, 258, .inl fR1))] (fun _ => True) 0 0 (fun (A : Nat → Prop) (r : Int32) (hh9 : Heap) => ∀ PZ9 : Prop, (kPD (dC, dI) vwCl A [(oR, .inr (9, [.ref oH, .ref oK, .ref n1, .ref n2, .ref n3, .ref r1, .ref r2, .ref r3, .ref r4, .ref r5, .ref r6, .int lR])), (r1, .inl (cI, 258, .inl fR1))] hh9 → (-1 ≤ r.toInt ∧ r.toInt ≤ 257) → (CHq fR1 258 r.toInt) → PZ9) → PZ9) := by
  refine kMi_of (cc := cX9_cheapest) (maxL := 3) (ret := (some .int)) (lv := [(0, .ref oR)]) (by decide +kernel) rfl rfl (Nat.le_of_ble_eq_true rfl) ?_
  intro p e s m below meth c A QQ ls hx hb hr hts hml hown hlocks hA hQQ hK hX hP hD hS hl
  have hown : s.vm.findClass RX9 = some m.cls := hown
  have hcf := k_cf hx hb hml hown hts
  have in_X9 : ∀ w ∈ wsX90, w ∈ wsX9_cheapest := fun _ h => List.mem_cons_of_mem _ (List.mem_append_right _ (h))
  replace g_lR := hid g_lR
  have z0 : (0 : Int32).toInt = 0 := rfl
  have z1 : (1 : Int32).toInt = 1 := rfl
  have zm1 : (-1 : Int32).toInt = -1 := rfl
  refine lv_iconst (v := (-1)) hx hb dX9_cheapest_0 (by decide) ?_
  refine lv_istore_n (lv' := [(1, .int (-1)), (0, .ref oR)]) hx hb dX9_cheapest_1 rfl hl (by decide) rfl (fun ls hl => ?_)
  refine lv_iconst (v := 0) hx hb dX9_cheapest_2 (by decide) ?_
  refine lv_istore_n (lv' := [(2, .int 0), (1, .int (-1)), (0, .ref oR)]) hx hb dX9_cheapest_3 rfl hl (by decide) rfl (fun ls hl => ?_)
  have LOOP_4 : ∀ (k_4 : Nat) (be : Int32) (pl : Int32) (H : Heap) (locs : List Loc) (ls : Array Slot), MSd (258 - pl.toInt : Int) k_4 → (-1 ≤ be.toInt ∧ be.toInt ≤ 257) → (0 ≤ pl.toInt ∧ pl.toInt ≤ 258) → (CHq fR1 pl.toInt be.toInt) → va_P (dC, dI) vwCl [(oR, .inr (9, [.ref oH, .ref oK, .ref n1, .ref n2, .ref n3, .ref r1, .ref r2, .ref r3, .ref r4, .ref r5, .ref r6, .int lR])), (r1, .inl (cI, 258, .inl fR1))] H → va_D A [(oR, .inr (9, [.ref oH, .ref oK, .ref n1, .ref n2, .ref n3, .ref r1, .ref r2, .ref r3, .ref r4, .ref r5, .ref r6, .int lR])), (r1, .inl (cI, 258, .inl fR1))] → va_S A s.heap H locs → lv_has ls 3 [(2, .int pl), (1, .int be), (0, .ref oR)] → W p l e (headSpec wsX9_cheapest ({ frames := 0, cells := 0, slots := 0, locals := 0 } : Room)).room s m ([.ref oR] : List Value).toArray below meth c H locs 0 0 (MQ below QQ ([.ref oR] : List Value).toArray s 0 0 A) (F0 m 4 ls []) := by
    clear hP hD hS hl
    intro k_4
    induction k_4 with
    | zero =>
      intro be pl H locs ls hm_4 g_be g_pl hch hP hD hS hl
      exact ms_0 hm_4
    | succ k_4 ih_4 =>
      intro be pl H locs ls hm_4 g_be g_pl hch hP hD hS hl
      refine lv_iload_n hx hb dX9_cheapest_4 rfl (lv_at hl 0 rfl) ?_
      refine lv_sipush (v := 258) hx hb dX9_cheapest_5 (by decide) ?_
      refine lv_icmp_ge (tgt := 49) hx hb dX9_cheapest_8 (by decide) (fun c_1 => ?_) (fun c_1 => ?_)
      · have tc_1 : 258 ≤ pl.toInt := v_le c_1
        refine lv_iload_n hx hb dX9_cheapest_49 rfl (lv_at hl 1 rfl) ?_
        exact kl_i (v := be) hQQ hx hb hr hlocks hS dX9_cheapest_50 (fun PZ9 kZ9 => kZ9 (⟨hP, hD⟩) (g_be) (CHq_n hch (by omega)))
      · have tc_1 : pl.toInt < 258 := v_nle c_1
        refine lv_aload_n hx hb dX9_cheapest_11 rfl (lv_at hl 2 rfl) ?_
        refine va_get (D := (dC, dI)) (ci := 9) (v := .ref r1) (C := RX9) (T := TX9) (N := 12) hx hb hts in_X9 hown hK hP 0 rfl rfl 5 (Nat.le_of_ble_eq_true rfl) (hts (.fieldLink RX9 26 "TextMender$Rows" "foundCost" "[I") (List.mem_of_getElem? (i := 1) rfl)) (fun _ h9 => h9) rfl dX9_cheapest_12 ?_
        refine lv_iload_n hx hb dX9_cheapest_15 rfl (lv_at hl 0 rfl) ?_
        refine va_iald hx hb hK hP 1 0 rfl rfl (v_in (by omega)) dX9_cheapest_16 ?_
        refine lv_topi (fun x_2 ex_2 => ?_)
        refine lv_iconst (v := (-1)) hx hb dX9_cheapest_17 (by decide) ?_
        refine lv_icmp_eq (tgt := 43) hx hb dX9_cheapest_18 (by decide) (fun c_3 => ?_) (fun c_3 => ?_)
        · have tc_3 : x_2.toInt = (-1) := v_eq c_3
          obtain ⟨x_4, ex_4⟩ : ∃ y : Int32, y = pl + 1 := ⟨_, rfl⟩
          have tx_4 : x_4.toInt = pl.toInt + 1 := v_addR (l2 := 1) (h2 := 1) ex_4 g_pl (by decide) (by decide) (by decide)
          refine lv_iinc (v := x_4) (lv' := [(2, .int x_4), (1, .int be), (0, .ref oR)]) hx hb dX9_cheapest_43 hl (k := 0) rfl (by rw [ex_4]; rfl) (by decide) rfl (fun ls hl => ?_)
          refine lv_goto (tgt := 4) hx hb dX9_cheapest_46 (by decide) ?_
          exact ih_4 be x_4 _ _ _ (ms_lt hm_4 (by show ((258 - x_4.toInt : Int)) < 258 - pl.toInt; omega) (by show (0 : Int) < 258 - pl.toInt; omega)) (g_be) (by show 0 ≤ x_4.toInt ∧ x_4.toInt ≤ 258; omega) (CHq_no hch ex_2 c_3 (by omega) (by omega)) hP hD hS (lv_sub hl [0, 1, 2] rfl)
        · have tc_3 : ¬ x_2.toInt = (-1) := v_ne c_3
          refine lv_iload_n hx hb dX9_cheapest_21 rfl (lv_at hl 1 rfl) ?_
          refine lv_iconst (v := (-1)) hx hb dX9_cheapest_22 (by decide) ?_
          refine lv_icmp_eq (tgt := 41) hx hb dX9_cheapest_23 (by decide) (fun c_5 => ?_) (fun c_5 => ?_)
          · have tc_5 : be.toInt = (-1) := v_eq c_5
            refine lv_iload_n hx hb dX9_cheapest_41 rfl (lv_at hl 0 rfl) ?_
            refine lv_istore_n (lv' := [(1, .int pl), (2, .int pl), (0, .ref oR)]) hx hb dX9_cheapest_42 rfl hl (by decide) rfl (fun ls hl => ?_)
            obtain ⟨x_6, ex_6⟩ : ∃ y : Int32, y = pl + 1 := ⟨_, rfl⟩
            have tx_6 : x_6.toInt = pl.toInt + 1 := v_addR (l2 := 1) (h2 := 1) ex_6 g_pl (by decide) (by decide) (by decide)
            refine lv_iinc (v := x_6) (lv' := [(2, .int x_6), (1, .int pl), (0, .ref oR)]) hx hb dX9_cheapest_43 hl (k := 1) rfl (by rw [ex_6]; rfl) (by decide) rfl (fun ls hl => ?_)
            refine lv_goto (tgt := 4) hx hb dX9_cheapest_46 (by decide) ?_
            exact ih_4 pl x_6 _ _ _ (ms_lt hm_4 (by show ((258 - x_6.toInt : Int)) < 258 - pl.toInt; omega) (by show (0 : Int) < 258 - pl.toInt; omega)) (by show -1 ≤ pl.toInt ∧ pl.toInt ≤ 257; omega) (by show 0 ≤ x_6.toInt ∧ x_6.toInt ≤ 258; omega) (CHq_new hch ex_2 c_3 (Or.inl (by omega)) (by omega) (by omega)) hP hD hS (lv_sub hl [0, 1, 2] rfl)
          · have tc_5 : ¬ be.toInt = (-1) := v_ne c_5
            refine lv_aload_n hx hb dX9_cheapest_26 rfl (lv_at hl 2 rfl) ?_
            refine va_get (D := (dC, dI)) (ci := 9) (v := .ref r1) (C := RX9) (T := TX9) (N := 12) hx hb hts in_X9 hown hK hP 0 rfl rfl 5 (Nat.le_of_ble_eq_true rfl) (hts (.fieldLink RX9 26 "TextMender$Rows" "foundCost" "[I") (List.mem_of_getElem? (i := 1) rfl)) (fun _ h9 => h9) rfl dX9_cheapest_27 ?_
            refine lv_iload_n hx hb dX9_cheapest_30 rfl (lv_at hl 0 rfl) ?_
            refine va_iald hx hb hK hP 1 0 rfl rfl (v_in (by omega)) dX9_cheapest_31 ?_
            refine k_i (y := x_2) ex_2.symm ?_
            refine lv_aload_n hx hb dX9_cheapest_32 rfl (lv_at hl 2 rfl) ?_
            refine va_get (D := (dC, dI)) (ci := 9) (v := .ref r1) (C := RX9) (T := TX9) (N := 12) hx hb hts in_X9 hown hK hP 0 rfl rfl 5 (Nat.le_of_ble_eq_true rfl) (hts (.fieldLink RX9 26 "TextMender$Rows" "foundCost" "[I") (List.mem_of_getElem? (i := 1) rfl)) (fun _ h9 => h9) rfl dX9_cheapest_33 ?_
            refine lv_iload_n hx hb dX9_cheapest_36 rfl (lv_at hl 1 rfl) ?_
            refine va_iald hx hb hK hP 1 0 rfl rfl (v_in (by omega)) dX9_cheapest_37 ?_
            refine lv_topi (fun x_7 ex_7 => ?_)
            refine lv_icmp_ge (tgt := 43) hx hb dX9_cheapest_38 (by decide) (fun c_8 => ?_) (fun c_8 => ?_)
            · have tc_8 : x_7.toInt ≤ x_2.toInt := v_le c_8
              have rw8_0 := v_rng x_2
              have rw8_1 := v_rng x_7
              obtain ⟨x_9, ex_9⟩ : ∃ y : Int32, y = pl + 1 := ⟨_, rfl⟩
              have tx_9 : x_9.toInt = pl.toInt + 1 := v_addR (l2 := 1) (h2 := 1) ex_9 g_pl (by decide) (by decide) (by decide)
              refine lv_iinc (v := x_9) (lv' := [(2, .int x_9), (1, .int be), (0, .ref oR)]) hx hb dX9_cheapest_43 hl (k := 0) rfl (by rw [ex_9]; rfl) (by decide) rfl (fun ls hl => ?_)
              refine lv_goto (tgt := 4) hx hb dX9_cheapest_46 (by decide) ?_
              exact ih_4 be x_9 _ _ _ (ms_lt hm_4 (by show ((258 - x_9.toInt : Int)) < 258 - pl.toInt; omega) (by show (0 : Int) < 258 - pl.toInt; omega)) (g_be) (by show 0 ≤ x_9.toInt ∧ x_9.toInt ≤ 258; omega) (CHq_keep hch ex_2 ex_7 (by omega) (by omega) (by omega) (by omega)) hP hD hS (lv_sub hl [0, 1, 2] rfl)
            · have tc_8 : x_2.toInt < x_7.toInt := v_nle c_8
              have rw8_0 := v_rng x_2
              have rw8_1 := v_rng x_7
              refine lv_iload_n hx hb dX9_cheapest_41 rfl (lv_at hl 0 rfl) ?_
              refine lv_istore_n (lv' := [(1, .int pl), (2, .int pl), (0, .ref oR)]) hx hb dX9_cheapest_42 rfl hl (by decide) rfl (fun ls hl => ?_)
              obtain ⟨x_10, ex_10⟩ : ∃ y : Int32, y = pl + 1 := ⟨_, rfl⟩
              have tx_10 : x_10.toInt = pl.toInt + 1 := v_addR (l2 := 1) (h2 := 1) ex_10 g_pl (by decide) (by decide) (by decide)
              refine lv_iinc (v := x_10) (lv' := [(2, .int x_10), (1, .int pl), (0, .ref oR)]) hx hb dX9_cheapest_43 hl (k := 1) rfl (by rw [ex_10]; rfl) (by decide) rfl (fun ls hl => ?_)
              refine lv_goto (tgt := 4) hx hb dX9_cheapest_46 (by decide) ?_
              exact ih_4 pl x_10 _ _ _ (ms_lt hm_4 (by show ((258 - x_10.toInt : Int)) < 258 - pl.toInt; omega) (by show (0 : Int) < 258 - pl.toInt; omega)) (by show -1 ≤ pl.toInt ∧ pl.toInt ≤ 257; omega) (by show 0 ≤ x_10.toInt ∧ x_10.toInt ≤ 258; omega) (CHq_new hch ex_2 c_3 (Or.inr ⟨_, ex_7, by omega⟩) (by omega) (by omega)) hP hD hS (lv_sub hl [0, 1, 2] rfl)
  exact LOOP_4 _ (-1) 0 _ _ _ (ms_s _) (by decide) (by decide) (CHq_0 rfl (by decide)) hP hD hS (lv_sub hl [0, 1, 2] rfl)

set_option maxHeartbeats 40000000 in
set_option maxRecDepth 100000 in
theorem f_X9_costAt (l : Launch) (dC : Nat → ClassId) (dI : Nat → Nat → Nat) (cI cS : ClassId) (sz : Nat) (oR : Nat) (oH : Nat) (oK : Nat) (n1 : Nat) (n2 : Nat) (n3 : Nat) (r1 : Nat) (r2 : Nat) (r3 : Nat) (r4 : Nat) (r5 : Nat) (r6 : Nat) (lR : Int32) (fR1 : Nat → Int32) (pl : Int32) (g_lR : 0 ≤ lR.toInt ∧ lR.toInt ≤ 258) (g_pl : 0 ≤ pl.toInt ∧ pl.toInt ≤ 257) : kMi l yX9_costAt wsX9_costAt ({ frames := 0, cells := 0, slots := 0, locals := 0 } : Room) [.ref oR, .int pl] sz (dC, dI) vwCl [(cI, .int), (cS, .short)] [(oR, .inr (9, [.ref oH, .ref oK, .ref n1, .ref n2, .ref n3, .ref r1, .ref r2, .ref r3, .ref r4, .ref r5, .ref r6, .int lR])), (r1, .inl (cI, 258, .inl fR1))] (fun _ => True) 0 0 (fun (A : Nat → Prop) (r : Int32) (hh9 : Heap) => ∀ PZ9 : Prop, (kPD (dC, dI) vwCl A [(oR, .inr (9, [.ref oH, .ref oK, .ref n1, .ref n2, .ref n3, .ref r1, .ref r2, .ref r3, .ref r4, .ref r5, .ref r6, .int lR])), (r1, .inl (cI, 258, .inl fR1))] hh9 → (r = fR1 pl.toNatClampNeg) → PZ9) → PZ9) := by
  refine kMi_of (cc := cX9_costAt) (maxL := 2) (ret := (some .int)) (lv := [(0, .ref oR), (1, .int pl)]) (by decide +kernel) rfl rfl (Nat.le_of_ble_eq_true rfl) ?_
  intro p e s m below meth c A QQ ls hx hb hr hts hml hown hlocks hA hQQ hK hX hP hD hS hl
  have hown : s.vm.findClass RX9 = some m.cls := hown
  have hcf := k_cf hx hb hml hown hts
  have in_X9 : ∀ w ∈ wsX90, w ∈ wsX9_costAt := fun _ h => List.mem_cons_of_mem _ (List.mem_append_right _ (h))
  replace g_lR := hid g_lR
  refine lv_iload_n hx hb dX9_costAt_0 rfl (lv_at hl 1 rfl) ?_
  refine lv_if_lt (tgt := 20) hx hb dX9_costAt_1 (by decide) (fun c_1 => by exfalso; have tc_1 : pl.toInt < 0 := v_lt c_1; omega) (fun c_1 => ?_)
  have tc_1 : 0 ≤ pl.toInt := v_nlt c_1
  refine lv_iload_n hx hb dX9_costAt_4 rfl (lv_at hl 1 rfl) ?_
  refine lv_sipush (v := 258) hx hb dX9_costAt_5 (by decide) ?_
  refine lv_icmp_ge (tgt := 20) hx hb dX9_costAt_8 (by decide) (fun c_2 => by exfalso; have tc_2 : 258 ≤ pl.toInt := v_le c_2; omega) (fun c_2 => ?_)
  have tc_2 : pl.toInt < 258 := v_nle c_2
  refine lv_aload_n hx hb dX9_costAt_11 rfl (lv_at hl 0 rfl) ?_
  refine va_get (D := (dC, dI)) (ci := 9) (v := .ref r1) (C := RX9) (T := TX9) (N := 12) hx hb hts in_X9 hown hK hP 0 rfl rfl 5 (Nat.le_of_ble_eq_true rfl) (hts (.fieldLink RX9 26 "TextMender$Rows" "foundCost" "[I") (List.mem_of_getElem? (i := 1) rfl)) (fun _ h9 => h9) rfl dX9_costAt_12 ?_
  refine lv_iload_n hx hb dX9_costAt_15 rfl (lv_at hl 1 rfl) ?_
  refine va_iald hx hb hK hP 1 0 rfl rfl (v_inR g_pl (by decide) (by decide)) dX9_costAt_16 ?_
  refine lv_topi (fun x_3 ex_3 => ?_)
  refine lv_goto (tgt := 21) hx hb dX9_costAt_17 (by decide) ?_
  exact kl_i (v := x_3) hQQ hx hb hr hlocks hS dX9_costAt_21 (fun PZ9 kZ9 => kZ9 (⟨hP, hD⟩) (ex_3))

set_option maxHeartbeats 40000000 in
set_option maxRecDepth 100000 in
theorem f_X9_numberOf (l : Launch) (dC : Nat → ClassId) (dI : Nat → Nat → Nat) (cI cS : ClassId) (sz : Nat) (oR : Nat) (oH : Nat) (oK : Nat) (n1 : Nat) (n2 : Nat) (n3 : Nat) (r1 : Nat) (r2 : Nat) (r3 : Nat) (r4 : Nat) (r5 : Nat) (r6 : Nat) (lR : Int32) (fR1 : Nat → Int32) (pl : Int32) (g_lR : 0 ≤ lR.toInt ∧ lR.toInt ≤ 258) (g_pl : 0 ≤ pl.toInt ∧ pl.toInt ≤ 257) : kMi l yX9_numberOf wsX9_numberOf ({ frames := 0, cells := 0, slots := 0, locals := 0 } : Room) [.ref oR, .int pl] sz (dC, dI) vwCl [(cI, .int), (cS, .short)] [(oR, .inr (9, [.ref oH, .ref oK, .ref n1, .ref n2, .ref n3, .ref r1, .ref r2, .ref r3, .ref r4, .ref r5, .ref r6, .int lR])), (r1, .inl (cI, 258, .inl fR1))] (fun _ => True) 0 0 (fun (A : Nat → Prop) (r : Int32) (hh9 : Heap) => ∀ PZ9 : Prop, (kPD (dC, dI) vwCl A [(oR, .inr (9, [.ref oH, .ref oK, .ref n1, .ref n2, .ref n3, .ref r1, .ref r2, .ref r3, .ref r4, .ref r5, .ref r6, .int lR])), (r1, .inl (cI, 258, .inl fR1))] hh9 → (r.toInt = nF fR1 pl.toNatClampNeg) → PZ9) → PZ9) := by
  refine kMi_of (cc := cX9_numberOf) (maxL := 4) (ret := (some .int)) (lv := [(0, .ref oR), (1, .int pl)]) (by decide +kernel) rfl rfl (Nat.le_of_ble_eq_true rfl) ?_
  intro p e s m below meth c A QQ ls hx hb hr hts hml hown hlocks hA hQQ hK hX hP hD hS hl
  have hown : s.vm.findClass RX9 = some m.cls := hown
  have hcf := k_cf hx hb hml hown hts
  have in_X9 : ∀ w ∈ wsX90, w ∈ wsX9_numberOf := fun _ h => List.mem_cons_of_mem _ (List.mem_append_right _ (h))
  replace g_lR := hid g_lR
  refine lv_iconst (v := 0) hx hb dX9_numberOf_0 (by decide) ?_
  refine lv_istore_n (lv' := [(2, .int 0), (0, .ref oR), (1, .int pl)]) hx hb dX9_numberOf_1 rfl hl (by decide) rfl (fun ls hl => ?_)
  refine lv_iconst (v := 0) hx hb dX9_numberOf_2 (by decide) ?_
  refine lv_istore_n (lv' := [(3, .int 0), (2, .int 0), (0, .ref oR), (1, .int pl)]) hx hb dX9_numberOf_3 rfl hl (by decide) rfl (fun ls hl => ?_)
  have LOOP_4 : ∀ (k_4 : Nat) (nu : Int32) (be : Int32) (H : Heap) (locs : List Loc) (ls : Array Slot), MSd (258 - be.toInt : Int) k_4 → (0 ≤ nu.toInt ∧ nu.toInt ≤ 258) → (0 ≤ be.toInt ∧ be.toInt ≤ 258) → (be.toInt ≤ pl.toInt) → (nu.toInt ≤ be.toInt) → (nu.toInt = nF fR1 be.toNatClampNeg) → va_P (dC, dI) vwCl [(oR, .inr (9, [.ref oH, .ref oK, .ref n1, .ref n2, .ref n3, .ref r1, .ref r2, .ref r3, .ref r4, .ref r5, .ref r6, .int lR])), (r1, .inl (cI, 258, .inl fR1))] H → va_D A [(oR, .inr (9, [.ref oH, .ref oK, .ref n1, .ref n2, .ref n3, .ref r1, .ref r2, .ref r3, .ref r4, .ref r5, .ref r6, .int lR])), (r1, .inl (cI, 258, .inl fR1))] → va_S A s.heap H locs → lv_has ls 4 [(3, .int be), (2, .int nu), (0, .ref oR), (1, .int pl)] → W p l e (headSpec wsX9_numberOf ({ frames := 0, cells := 0, slots := 0, locals := 0 } : Room)).room s m ([.ref oR, .int pl] : List Value).toArray below meth c H locs 0 0 (MQ below QQ ([.ref oR, .int pl] : List Value).toArray s 0 0 A) (F0 m 4 ls []) := by
    clear hP hD hS hl
    intro k_4
    induction k_4 with
    | zero =>
      intro nu be H locs ls hm_4 g_nu g_be hbp hnb hnu hP hD hS hl
      exact ms_0 hm_4
    | succ k_4 ih_4 =>
      intro nu be H locs ls hm_4 g_nu g_be hbp hnb hnu hP hD hS hl
      refine lv_iload_n hx hb dX9_numberOf_4 rfl (lv_at hl 0 rfl) ?_
      refine lv_iload_n hx hb dX9_numberOf_5 rfl (lv_at hl 3 rfl) ?_
      refine lv_icmp_ge (tgt := 35) hx hb dX9_numberOf_6 (by decide) (fun c_1 => ?_) (fun c_1 => ?_)
      · have tc_1 : pl.toInt ≤ be.toInt := v_le c_1
        refine lv_iload_n hx hb dX9_numberOf_35 rfl (lv_at hl 1 rfl) ?_
        exact kl_i (v := nu) hQQ hx hb hr hlocks hS dX9_numberOf_36 (fun PZ9 kZ9 => kZ9 (⟨hP, hD⟩) ((show be = pl from v_inj (by omega)) ▸ hnu))
      · have tc_1 : be.toInt < pl.toInt := v_nle c_1
        refine lv_iload_n hx hb dX9_numberOf_9 rfl (lv_at hl 0 rfl) ?_
        refine lv_sipush (v := 258) hx hb dX9_numberOf_10 (by decide) ?_
        refine lv_icmp_ge (tgt := 35) hx hb dX9_numberOf_13 (by decide) (fun c_2 => by exfalso; have tc_2 : 258 ≤ be.toInt := v_le c_2; omega) (fun c_2 => ?_)
        have tc_2 : be.toInt < 258 := v_nle c_2
        refine lv_aload_n hx hb dX9_numberOf_16 rfl (lv_at hl 2 rfl) ?_
        refine va_get (D := (dC, dI)) (ci := 9) (v := .ref r1) (C := RX9) (T := TX9) (N := 12) hx hb hts in_X9 hown hK hP 0 rfl rfl 5 (Nat.le_of_ble_eq_true rfl) (hts (.fieldLink RX9 26 "TextMender$Rows" "foundCost" "[I") (List.mem_of_getElem? (i := 1) rfl)) (fun _ h9 => h9) rfl dX9_numberOf_17 ?_
        refine lv_iload_n hx hb dX9_numberOf_20 rfl (lv_at hl 0 rfl) ?_
        refine va_iald hx hb hK hP 1 0 rfl rfl (v_in (by omega)) dX9_numberOf_21 ?_
        refine lv_topi (fun x_3 ex_3 => ?_)
        refine lv_iconst (v := (-1)) hx hb dX9_numberOf_22 (by decide) ?_
        refine lv_icmp_eq (tgt := 29) hx hb dX9_numberOf_23 (by decide) (fun c_4 => ?_) (fun c_4 => ?_)
        · have tc_4 : x_3.toInt = (-1) := v_eq c_4
          obtain ⟨x_5, ex_5⟩ : ∃ y : Int32, y = be + 1 := ⟨_, rfl⟩
          have tx_5 : x_5.toInt = be.toInt + 1 := v_addR (l2 := 1) (h2 := 1) ex_5 g_be (by decide) (by decide) (by decide)
          refine lv_iinc (v := x_5) (lv' := [(3, .int x_5), (2, .int nu), (0, .ref oR), (1, .int pl)]) hx hb dX9_numberOf_29 hl (k := 0) rfl (by rw [ex_5]; rfl) (by decide) rfl (fun ls hl => ?_)
          refine lv_goto (tgt := 4) hx hb dX9_numberOf_32 (by decide) ?_
          exact ih_4 nu x_5 _ _ _ (ms_lt hm_4 (by show ((258 - x_5.toInt : Int)) < 258 - be.toInt; omega) (by show (0 : Int) < 258 - be.toInt; omega)) (g_nu) (by show 0 ≤ x_5.toInt ∧ x_5.toInt ≤ 258; omega) (by show x_5.toInt ≤ pl.toInt; omega) (by show nu.toInt ≤ x_5.toInt; omega) (nF_st hnu ex_3 (Or.inl ⟨c_4, by omega⟩) (by omega) (by omega)) hP hD hS (lv_sub hl [0, 1, 2, 3] rfl)
        · have tc_4 : ¬ x_3.toInt = (-1) := v_ne c_4
          obtain ⟨x_6, ex_6⟩ : ∃ y : Int32, y = nu + 1 := ⟨_, rfl⟩
          have tx_6 : x_6.toInt = nu.toInt + 1 := v_addR (l2 := 1) (h2 := 1) ex_6 g_nu (by decide) (by decide) (by decide)
          refine lv_iinc (v := x_6) (lv' := [(2, .int x_6), (3, .int be), (0, .ref oR), (1, .int pl)]) hx hb dX9_numberOf_26 hl (k := 1) rfl (by rw [ex_6]; rfl) (by decide) rfl (fun ls hl => ?_)
          obtain ⟨x_7, ex_7⟩ : ∃ y : Int32, y = be + 1 := ⟨_, rfl⟩
          have tx_7 : x_7.toInt = be.toInt + 1 := v_addR (l2 := 1) (h2 := 1) ex_7 g_be (by decide) (by decide) (by decide)
          refine lv_iinc (v := x_7) (lv' := [(3, .int x_7), (2, .int x_6), (0, .ref oR), (1, .int pl)]) hx hb dX9_numberOf_29 hl (k := 1) rfl (by rw [ex_7]; rfl) (by decide) rfl (fun ls hl => ?_)
          refine lv_goto (tgt := 4) hx hb dX9_numberOf_32 (by decide) ?_
          exact ih_4 x_6 x_7 _ _ _ (ms_lt hm_4 (by show ((258 - x_7.toInt : Int)) < 258 - be.toInt; omega) (by show (0 : Int) < 258 - be.toInt; omega)) (by show 0 ≤ x_6.toInt ∧ x_6.toInt ≤ 258; omega) (by show 0 ≤ x_7.toInt ∧ x_7.toInt ≤ 258; omega) (by show x_7.toInt ≤ pl.toInt; omega) (by show x_6.toInt ≤ x_7.toInt; omega) (nF_st hnu ex_3 (Or.inr ⟨c_4, by omega⟩) (by omega) (by omega)) hP hD hS (lv_sub hl [0, 1, 2, 3] rfl)
  exact LOOP_4 _ 0 0 _ _ _ (ms_s _) (by decide) (by decide) (by show 0 ≤ pl.toInt; omega) (by show 0 ≤ 0; omega) (rfl) hP hD hS (lv_sub hl [0, 1, 2, 3] rfl)

theorem prg_cp {l l' : Int32} {f f' : Nat → Int32} (e : l'.toInt = l.toInt) (h : ∀ j : Nat, (j : Int) < l.toInt → f' j = f j) (hp : prg l.toInt 0 65535 f) : prg l'.toInt 0 65535 f' := fun j hj => by
  rw [h j (by omega)]; exact hp j (by omega)

theorem aa_1 {cap : Nat} {l' lo r : Int32} {f f' g : Nat → Int32} (h : F_addAll cap 0 l' lo r f f' g) (hl : lo.toInt ≤ cap) : r.toInt = 1 := by
  have e : (0 : Int32).toInt = 0 := rfl
  rcases h with ⟨a1, a2, a3, a4⟩ | ⟨a1, _⟩
  · rw [a3]; rfl
  · omega

set_option maxHeartbeats 40000000 in
set_option maxRecDepth 100000 in
theorem f_X9_build (l : Launch) (dC : Nat → ClassId) (dI : Nat → Nat → Nat) (cI cS : ClassId) (sz : Nat) (oR : Nat) (nx : Nat) (nd : Nat) (oH : Nat) (oK : Nat) (n1 : Nat) (n2 : Nat) (n3 : Nat) (r1 : Nat) (r2 : Nat) (r3 : Nat) (r4 : Nat) (r5 : Nat) (r6 : Nat) (a1 : Nat) (a2 : Nat) (oP : Nat) (h1 : Nat) (h2 : Nat) (oC : Nat) (nB : Nat) (aB : Nat) (o4 : Nat) (o5 : Nat) (a41 : Nat) (a42 : Nat) (a43 : Nat) (a51 : Nat) (a52 : Nat) (a53 : Nat) (ax : Nat) (ad : Nat) (lR : Int32) (fR3 : Nat → Int32) (l1 : Int32) (f1 : Nat → Int32) (l2 : Int32) (f2 : Nat → Int32) (lH : Int32) (fH1 : Nat → Int32) (fH2 : Nat → Int32) (ft : Int32) (lB : Int32) (fB : Nat → Int32) (l4 : Int32) (f41 : Nat → Int32) (f42 : Nat → Int32) (f43 : Nat → Int32) (l5 : Int32) (f51 : Nat → Int32) (f52 : Nat → Int32) (f53 : Nat → Int32) (lx : Int32) (fx : Nat → Int32) (ld : Int32) (fd : Nat → Int32) (pl : Int32) (g_lR : 0 ≤ lR.toInt ∧ lR.toInt ≤ 258) (g_l1 : 0 ≤ l1.toInt ∧ l1.toInt ≤ 300) (g_l2 : 0 ≤ l2.toInt ∧ l2.toInt ≤ 300) (g_lH : 0 ≤ lH.toInt ∧ lH.toInt ≤ 6) (g_lB : 0 ≤ lB.toInt ∧ lB.toInt ≤ 2400) (g_lx : 0 ≤ lx.toInt ∧ lx.toInt ≤ 300) (g_ld : 0 ≤ ld.toInt ∧ ld.toInt ≤ 300) (g_pl : 0 ≤ pl.toInt ∧ pl.toInt ≤ 257) (hnm : ∀ j : Nat, j < 3 → fR3 (3 * pl.toNatClampNeg + j) = -1 ∨ (0 ≤ (fR3 (3 * pl.toNatClampNeg + j)).toInt ∧ (fR3 (3 * pl.toNatClampNeg + j)).toInt < lH.toInt)) (hlt : prg lx.toInt 0 65535 fx) (hT4 : HT 512 511 hsT f42 f43) (ho4 : (occ f43 512 : Int) ≤ 511) (hT5 : HT 512 511 hsT f52 f53) (ho5 : (occ f53 512 : Int) ≤ 511) (hL4 : prg 256 (-1) 65535 f41) (hL5 : prg 256 (-1) 65535 f51) (hBr : ∀ cd : Int32, okB (Bc cd f42 f43 f52 f53)) : kMi l yX9_build wsX9_build ({ frames := 6, cells := 0, slots := 0, locals := 147 } : Room) [.ref oR, .int pl, .ref nx, .ref nd] sz (dC, dI) vwCl [(cI, .int), (cS, .short)] [(oR, .inr (9, [.ref oH, .ref oK, .ref n1, .ref n2, .ref n3, .ref r1, .ref r2, .ref r3, .ref r4, .ref r5, .ref r6, .int lR])), (r3, .inl (cI, 774, .inl fR3)), (n1, .inr (5, [.ref a1, .int l1])), (a1, .inl (cI, 300, .inl f1)), (n2, .inr (5, [.ref a2, .int l2])), (a2, .inl (cI, 300, .inl f2)), (oH, .inr (4, [.ref oP, .ref h1, .ref h2, .int lH])), (h1, .inl (cI, 6, .inl fH1)), (h2, .inl (cI, 6, .inl fH2)), (oP, .inr (7, [.ref oC, .ref nB, .int ft])), (nB, .inr (5, [.ref aB, .int lB])), (aB, .inl (cI, 2400, .inl fB)), (oC, .inr (2, [.ref o4, .ref o5])), (o4, .inr (10, [.ref a41, .ref a42, .ref a43, .int l4])), (a41, .inl (cI, 256, .inl f41)), (a42, .inl (cI, 512, .inl f42)), (a43, .inl (cI, 512, .inl f43)), (o5, .inr (10, [.ref a51, .ref a52, .ref a53, .int l5])), (a51, .inl (cI, 256, .inl f51)), (a52, .inl (cI, 512, .inl f52)), (a53, .inl (cI, 512, .inl f53)), (nx, .inr (5, [.ref ax, .int lx])), (ax, .inl (cI, 300, .inl fx)), (nd, .inr (5, [.ref ad, .int ld])), (ad, .inl (cI, 300, .inl fd))] (va_Nw (.methodLinkNest RX2 52 yX11_isLetter "TextMender")) 0 0 (fun (A : Nat → Prop) (r : Int32) (hh9 : Heap) => ∀ PZ9 : Prop, (∀ (ft' : Int32) (lB' : Int32) (fB' : Nat → Int32) (l1' : Int32) (f1' : Nat → Int32) (l2' : Int32) (f2' : Nat → Int32) (ld' : Int32) (fd' : Nat → Int32), kPD (dC, dI) vwCl A [(oR, .inr (9, [.ref oH, .ref oK, .ref n1, .ref n2, .ref n3, .ref r1, .ref r2, .ref r3, .ref r4, .ref r5, .ref r6, .int lR])), (r3, .inl (cI, 774, .inl fR3)), (n1, .inr (5, [.ref a1, .int l1'])), (a1, .inl (cI, 300, .inl f1')), (n2, .inr (5, [.ref a2, .int l2'])), (a2, .inl (cI, 300, .inl f2')), (oH, .inr (4, [.ref oP, .ref h1, .ref h2, .int lH])), (h1, .inl (cI, 6, .inl fH1)), (h2, .inl (cI, 6, .inl fH2)), (oP, .inr (7, [.ref oC, .ref nB, .int ft'])), (nB, .inr (5, [.ref aB, .int lB'])), (aB, .inl (cI, 2400, .inl fB')), (oC, .inr (2, [.ref o4, .ref o5])), (o4, .inr (10, [.ref a41, .ref a42, .ref a43, .int l4])), (a41, .inl (cI, 256, .inl f41)), (a42, .inl (cI, 512, .inl f42)), (a43, .inl (cI, 512, .inl f43)), (o5, .inr (10, [.ref a51, .ref a52, .ref a53, .int l5])), (a51, .inl (cI, 256, .inl f51)), (a52, .inl (cI, 512, .inl f52)), (a53, .inl (cI, 512, .inl f53)), (nx, .inr (5, [.ref ax, .int lx])), (ax, .inl (cI, 300, .inl fx)), (nd, .inr (5, [.ref ad, .int ld'])), (ad, .inl (cI, 300, .inl fd'))] hh9 → (0 ≤ lB'.toInt ∧ lB'.toInt ≤ 2400) → (0 ≤ l1'.toInt ∧ l1'.toInt ≤ 300) → (0 ≤ l2'.toInt ∧ l2'.toInt ≤ 300) → (0 ≤ ld'.toInt ∧ ld'.toInt ≤ 300) → (0 ≤ r.toInt ∧ r.toInt ≤ 1) → (F_bd (UC fH1 fH2 f41 f42 f43 f51 f52 f53) (flk fR3 pl.toNatClampNeg 3) r ld' fd' lx.toInt fx) → PZ9) → PZ9) := by
  refine kMi_of (cc := cX9_build) (maxL := 6) (ret := (some .boolean)) (lv := [(0, .ref oR), (1, .int pl), (2, .ref nx), (3, .ref nd)]) (by decide +kernel) rfl rfl (Nat.le_of_ble_eq_true rfl) ?_
  intro p e s m below meth c A QQ ls hx hb hr hts hml hown hlocks hA hQQ hK hX hP hD hS hl
  have hown : s.vm.findClass RX9 = some m.cls := hown
  have hcf := k_cf hx hb hml hown hts
  have hN52 := hX
  have in_X9 : ∀ w ∈ wsX90, w ∈ wsX9_build := fun _ h => List.mem_cons_of_mem _ (List.mem_append_left _ (List.mem_append_left _ (List.mem_append_left _ (List.mem_append_left _ (List.mem_append_left _ (List.mem_append_left _ (List.mem_append_left _ (List.mem_append_right _ (h)))))))))
  replace g_lR := hid g_lR
  replace g_l2 := hid g_l2
  replace g_lB := hid g_lB
  have hU : okU (UC fH1 fH2 f41 f42 f43 f51 f52 f53) := okU_C hBr hL4 hL5
  have c0 := v_clamp (x := pl) (by omega)
  refine lv_iload_n hx hb dX9_build_0 rfl (lv_at hl 1 rfl) ?_
  refine lv_if_lt (tgt := 11) hx hb dX9_build_1 (by decide) (fun c_1 => by exfalso; have tc_1 : pl.toInt < 0 := v_lt c_1; omega) (fun c_1 => ?_)
  have tc_1 : 0 ≤ pl.toInt := v_nlt c_1
  refine lv_iload_n hx hb dX9_build_4 rfl (lv_at hl 1 rfl) ?_
  refine lv_sipush (v := 258) hx hb dX9_build_5 (by decide) ?_
  refine lv_icmp_lt (tgt := 13) hx hb dX9_build_8 (by decide) (fun c_2 => ?_) (fun c_2 => by exfalso; have tc_2 : 258 ≤ pl.toInt := v_nlt c_2; omega)
  have tc_2 : pl.toInt < 258 := v_lt c_2
  refine lv_aload_n hx hb dX9_build_13 rfl (lv_at hl 0 rfl) ?_
  refine va_get (D := (dC, dI)) (ci := 9) (v := .ref n1) (C := RX9) (T := TX9) (N := 12) hx hb hts in_X9 hown hK hP 0 rfl rfl 2 (Nat.le_of_ble_eq_true rfl) (hts (.fieldLink RX9 14 "TextMender$Rows" "one" "LTextMender$Numbers;") (List.mem_of_getElem? (i := 1) rfl)) (fun _ h9 => h9) rfl dX9_build_14 ?_
  refine lv_aload_n hx hb dX9_build_17 rfl (lv_at hl 2 rfl) ?_
  refine kV_i (rest := []) (q0 := 0) (ci := 5) hcf (m_X5_takeAll l dC dI cI cS s.heap.size n1 nx a1 ax 300 300 l1 f1 lx fx (by omega) (by omega) (by omega) (by omega)) kc_X5_takeAll gX9_build_X5_takeAll rfl rfl rfl ⟨Nat.le_of_ble_eq_true rfl, Nat.le_of_ble_eq_true rfl⟩ kX_t hK hP hD hS hA (posT mk_36 0) (posF mk_36 0) (kC_of mk_36 rfl rfl) (by decide +kernel) rfl rfl rfl hl rfl (Nat.le_of_ble_eq_true rfl) dX9_build_18 ⟨Nat.le_of_ble_eq_true rfl, Nat.le_of_ble_eq_true rfl⟩ (fun r_3 H locs hB hJ hSn => ?_)
  refine hB _ (fun lu_3 fu_3 hPD9 hf3_0 hf3_1 hf3_2 => ?_)
  clear hB
  obtain ⟨hPn, hDn⟩ := kJi (m := mk_36) hJ rfl hPD9.1 hPD9.2 (wn := [(oR, .inr (9, [.ref oH, .ref oK, .ref n1, .ref n2, .ref n3, .ref r1, .ref r2, .ref r3, .ref r4, .ref r5, .ref r6, .int lR])), (r3, .inl (cI, 774, .inl fR3)), (n1, .inr (5, [.ref a1, .int lu_3])), (a1, .inl (cI, 300, .inl fu_3)), (n2, .inr (5, [.ref a2, .int l2])), (a2, .inl (cI, 300, .inl f2)), (oH, .inr (4, [.ref oP, .ref h1, .ref h2, .int lH])), (h1, .inl (cI, 6, .inl fH1)), (h2, .inl (cI, 6, .inl fH2)), (oP, .inr (7, [.ref oC, .ref nB, .int ft])), (nB, .inr (5, [.ref aB, .int lB])), (aB, .inl (cI, 2400, .inl fB)), (oC, .inr (2, [.ref o4, .ref o5])), (o4, .inr (10, [.ref a41, .ref a42, .ref a43, .int l4])), (a41, .inl (cI, 256, .inl f41)), (a42, .inl (cI, 512, .inl f42)), (a43, .inl (cI, 512, .inl f43)), (o5, .inr (10, [.ref a51, .ref a52, .ref a53, .int l5])), (a51, .inl (cI, 256, .inl f51)), (a52, .inl (cI, 512, .inl f52)), (a53, .inl (cI, 512, .inl f53)), (nx, .inr (5, [.ref ax, .int lx])), (ax, .inl (cI, 300, .inl fx)), (nd, .inr (5, [.ref ad, .int ld])), (ad, .inl (cI, 300, .inl fd))]) rfl
  clear hP hD hS hJ hPD9
  have hP := hPn
  have hD := hDn
  have hS := hSn
  clear hPn hDn hSn
  refine lv_pop hx hb dX9_build_21 rfl ?_
  refine lv_iconst (v := 2) hx hb dX9_build_22 (by decide) ?_
  refine lv_istore (lv' := [(4, .int 2), (0, .ref oR), (1, .int pl), (2, .ref nx), (3, .ref nd)]) hx hb dX9_build_23 hl (by decide) rfl (fun ls hl => ?_)
  have LOOP_25 : ∀ (k_25 : Nat) (k : Int32) (fta : Int32) (lBa : Int32) (loa : Int32) (lta : Int32) (fBa : Nat → Int32) (foa : Nat → Int32) (fua : Nat → Int32) (H : Heap) (locs : List Loc) (ls : Array Slot), MSd (k.toInt + 1 : Int) k_25 → (-1 ≤ k.toInt ∧ k.toInt ≤ 2) → (0 ≤ lBa.toInt ∧ lBa.toInt ≤ 2400) → (0 ≤ loa.toInt ∧ loa.toInt ≤ 300) → (0 ≤ lta.toInt ∧ lta.toInt ≤ 300) → (bEq (UC fH1 fH2 f41 f42 f43 f51 f52 f53) (flk fR3 pl.toNatClampNeg 3) (flk fR3 pl.toNatClampNeg (k.toInt + 1).toNat) lx.toInt loa.toInt fx foa) → (prg loa.toInt 0 65535 foa) → va_P (dC, dI) vwCl [(oR, .inr (9, [.ref oH, .ref oK, .ref n1, .ref n2, .ref n3, .ref r1, .ref r2, .ref r3, .ref r4, .ref r5, .ref r6, .int lR])), (r3, .inl (cI, 774, .inl fR3)), (n1, .inr (5, [.ref a1, .int loa])), (a1, .inl (cI, 300, .inl foa)), (n2, .inr (5, [.ref a2, .int lta])), (a2, .inl (cI, 300, .inl fua)), (oH, .inr (4, [.ref oP, .ref h1, .ref h2, .int lH])), (h1, .inl (cI, 6, .inl fH1)), (h2, .inl (cI, 6, .inl fH2)), (oP, .inr (7, [.ref oC, .ref nB, .int fta])), (nB, .inr (5, [.ref aB, .int lBa])), (aB, .inl (cI, 2400, .inl fBa)), (oC, .inr (2, [.ref o4, .ref o5])), (o4, .inr (10, [.ref a41, .ref a42, .ref a43, .int l4])), (a41, .inl (cI, 256, .inl f41)), (a42, .inl (cI, 512, .inl f42)), (a43, .inl (cI, 512, .inl f43)), (o5, .inr (10, [.ref a51, .ref a52, .ref a53, .int l5])), (a51, .inl (cI, 256, .inl f51)), (a52, .inl (cI, 512, .inl f52)), (a53, .inl (cI, 512, .inl f53)), (nx, .inr (5, [.ref ax, .int lx])), (ax, .inl (cI, 300, .inl fx)), (nd, .inr (5, [.ref ad, .int ld])), (ad, .inl (cI, 300, .inl fd))] H → va_D A [(oR, .inr (9, [.ref oH, .ref oK, .ref n1, .ref n2, .ref n3, .ref r1, .ref r2, .ref r3, .ref r4, .ref r5, .ref r6, .int lR])), (r3, .inl (cI, 774, .inl fR3)), (n1, .inr (5, [.ref a1, .int loa])), (a1, .inl (cI, 300, .inl foa)), (n2, .inr (5, [.ref a2, .int lta])), (a2, .inl (cI, 300, .inl fua)), (oH, .inr (4, [.ref oP, .ref h1, .ref h2, .int lH])), (h1, .inl (cI, 6, .inl fH1)), (h2, .inl (cI, 6, .inl fH2)), (oP, .inr (7, [.ref oC, .ref nB, .int fta])), (nB, .inr (5, [.ref aB, .int lBa])), (aB, .inl (cI, 2400, .inl fBa)), (oC, .inr (2, [.ref o4, .ref o5])), (o4, .inr (10, [.ref a41, .ref a42, .ref a43, .int l4])), (a41, .inl (cI, 256, .inl f41)), (a42, .inl (cI, 512, .inl f42)), (a43, .inl (cI, 512, .inl f43)), (o5, .inr (10, [.ref a51, .ref a52, .ref a53, .int l5])), (a51, .inl (cI, 256, .inl f51)), (a52, .inl (cI, 512, .inl f52)), (a53, .inl (cI, 512, .inl f53)), (nx, .inr (5, [.ref ax, .int lx])), (ax, .inl (cI, 300, .inl fx)), (nd, .inr (5, [.ref ad, .int ld])), (ad, .inl (cI, 300, .inl fd))] → va_S A s.heap H locs → lv_has ls 6 [(4, .int k), (0, .ref oR), (1, .int pl), (2, .ref nx), (3, .ref nd)] → W p l e (headSpec wsX9_build ({ frames := 6, cells := 0, slots := 0, locals := 147 } : Room)).room s m ([.ref oR, .int pl, .ref nx, .ref nd] : List Value).toArray below meth c H locs 0 0 (MQ below QQ ([.ref oR, .int pl, .ref nx, .ref nd] : List Value).toArray s 0 0 A) (F0 m 25 ls []) := by
    clear hP hD hS hl
    try (clear g_l1)
    intro k_25
    induction k_25 with
    | zero =>
      intro k fta lBa loa lta fBa foa fua H locs ls hm_25 g_k g_lBa g_loa g_lta hbl hpr hP hD hS hl
      exact ms_0 hm_25
    | succ k_25 ih_25 =>
      intro k fta lBa loa lta fBa foa fua H locs ls hm_25 g_k g_lBa g_loa g_lta hbl hpr hP hD hS hl
      refine lv_iload hx hb dX9_build_25 (lv_at hl 0 rfl) ?_
      refine lv_if_lt (tgt := 89) hx hb dX9_build_27 (by decide) (fun c_4 => ?_) (fun c_4 => ?_)
      · have tc_4 : k.toInt < 0 := v_lt c_4
        refine lv_aload_n hx hb dX9_build_89 rfl (lv_at hl 4 rfl) ?_
        refine lv_aload_n hx hb dX9_build_90 rfl (lv_at hl 1 rfl) ?_
        refine va_get (D := (dC, dI)) (ci := 9) (v := .ref n1) (C := RX9) (T := TX9) (N := 12) hx hb hts in_X9 hown hK hP 0 rfl rfl 2 (Nat.le_of_ble_eq_true rfl) (hts (.fieldLink RX9 14 "TextMender$Rows" "one" "LTextMender$Numbers;") (List.mem_of_getElem? (i := 1) rfl)) (fun _ h9 => h9) rfl dX9_build_91 ?_
        refine kV_i (rest := []) (q0 := 0) (ci := 5) hcf (m_X5_takeAll l dC dI cI cS H.size nd n1 ad a1 300 300 ld fd loa foa (by omega) (by omega) (by omega) (by omega)) kc_X5_takeAll gX9_build_X5_takeAll rfl rfl rfl ⟨Nat.le_of_ble_eq_true rfl, Nat.le_of_ble_eq_true rfl⟩ kX_t hK hP hD hS hA ([2, 3, 0, 1].filterMap (fun j => (posT mk_37 0)[j]?)) (posF mk_37 0) (kCp (ws := [(n1, .inr (5, [.ref a1, .int loa])), (a1, .inl (cI, 300, .inl foa)), (nd, .inr (5, [.ref ad, .int ld])), (ad, .inl (cI, 300, .inl fd))]) (kC_of mk_37 rfl rfl) rfl) (by decide +kernel) rfl rfl rfl hl rfl (Nat.le_of_ble_eq_true rfl) dX9_build_94 ⟨Nat.le_of_ble_eq_true rfl, Nat.le_of_ble_eq_true rfl⟩ (fun r_5 H locs hB hJ hSn => ?_)
        refine hB _ (fun lu_5 fu_5 hPD9 hf5_0 hf5_1 hf5_2 => ?_)
        clear hB
        obtain ⟨hPn, hDn⟩ := kJm (m := mk_37) hJ rfl hPD9.1 hPD9.2 [2, 3, 0, 1] (by decide +kernel) (ws := [(n1, .inr (5, [.ref a1, .int loa])), (a1, .inl (cI, 300, .inl foa)), (nd, .inr (5, [.ref ad, .int lu_5])), (ad, .inl (cI, 300, .inl fu_5))]) rfl (wn := [(oR, .inr (9, [.ref oH, .ref oK, .ref n1, .ref n2, .ref n3, .ref r1, .ref r2, .ref r3, .ref r4, .ref r5, .ref r6, .int lR])), (r3, .inl (cI, 774, .inl fR3)), (n1, .inr (5, [.ref a1, .int loa])), (a1, .inl (cI, 300, .inl foa)), (n2, .inr (5, [.ref a2, .int lta])), (a2, .inl (cI, 300, .inl fua)), (oH, .inr (4, [.ref oP, .ref h1, .ref h2, .int lH])), (h1, .inl (cI, 6, .inl fH1)), (h2, .inl (cI, 6, .inl fH2)), (oP, .inr (7, [.ref oC, .ref nB, .int fta])), (nB, .inr (5, [.ref aB, .int lBa])), (aB, .inl (cI, 2400, .inl fBa)), (oC, .inr (2, [.ref o4, .ref o5])), (o4, .inr (10, [.ref a41, .ref a42, .ref a43, .int l4])), (a41, .inl (cI, 256, .inl f41)), (a42, .inl (cI, 512, .inl f42)), (a43, .inl (cI, 512, .inl f43)), (o5, .inr (10, [.ref a51, .ref a52, .ref a53, .int l5])), (a51, .inl (cI, 256, .inl f51)), (a52, .inl (cI, 512, .inl f52)), (a53, .inl (cI, 512, .inl f53)), (nx, .inr (5, [.ref ax, .int lx])), (ax, .inl (cI, 300, .inl fx)), (nd, .inr (5, [.ref ad, .int lu_5])), (ad, .inl (cI, 300, .inl fu_5))]) rfl
        clear hP hD hS hJ hPD9
        have hP := hPn
        have hD := hDn
        have hS := hSn
        clear hPn hDn hSn
        exact kl_z (v := r_5) hQQ hx hb hr hlocks hS dX9_build_97 (v_bool (by omega)) (fun PZ9 kZ9 => kZ9 fta lBa fBa loa foa lta fua lu_5 fu_5 (⟨hP, hD⟩) (g_lBa) (g_loa) (g_lta) (by omega) (hf5_1) (bl_end hbl (by omega) (by omega) (aa_1 hf5_2 (by omega)) (addAll_cp hf5_2 (by omega) (by omega)).1 (addAll_cp hf5_2 (by omega) (by omega)).2))
      · have tc_4 : 0 ≤ k.toInt := v_nlt c_4
        refine lv_aload_n hx hb dX9_build_30 rfl (lv_at hl 1 rfl) ?_
        refine va_get (D := (dC, dI)) (ci := 9) (v := .ref r3) (C := RX9) (T := TX9) (N := 12) hx hb hts in_X9 hown hK hP 0 rfl rfl 7 (Nat.le_of_ble_eq_true rfl) (hts (.fieldLink RX9 33 "TextMender$Rows" "foundHarms" "[I") (List.mem_of_getElem? (i := 2) rfl)) (fun _ h9 => h9) rfl dX9_build_31 ?_
        refine lv_iload_n hx hb dX9_build_34 rfl (lv_at hl 2 rfl) ?_
        refine lv_iconst (v := 3) hx hb dX9_build_35 (by decide) ?_
        refine lv_imul hx hb dX9_build_36 ?_
        refine lv_topi (fun x_6 ex_6 => ?_)
        have tx_6 : x_6.toInt = pl.toInt * 3 := v_mul ex_6 (by show -2147483648 ≤ pl.toInt * 3; omega) (by show pl.toInt * 3 < 2147483648; omega)
        refine lv_iload hx hb dX9_build_37 (lv_at hl 0 rfl) ?_
        refine lv_iadd hx hb dX9_build_39 ?_
        refine lv_topi (fun x_7 ex_7 => ?_)
        have tx_7 : x_7.toInt = x_6.toInt + k.toInt := v_add ex_7 (by show -2147483648 ≤ x_6.toInt + k.toInt; omega) (by show x_6.toInt + k.toInt < 2147483648; omega)
        refine va_iald hx hb hK hP 1 0 rfl rfl (v_in (by omega)) dX9_build_40 ?_
        refine lv_topi (fun x_8 ex_8 => ?_)
        refine lv_istore (lv' := [(5, .int x_8), (4, .int k), (0, .ref oR), (1, .int pl), (2, .ref nx), (3, .ref nd)]) hx hb dX9_build_41 hl (by decide) rfl (fun ls hl => ?_)
        refine lv_iload hx hb dX9_build_43 (lv_at hl 0 rfl) ?_
        refine lv_iconst (v := (-1)) hx hb dX9_build_45 (by decide) ?_
        refine lv_icmp_eq (tgt := 83) hx hb dX9_build_46 (by decide) (fun c_9 => ?_) (fun c_9 => ?_)
        · have tc_9 : x_8.toInt = (-1) := v_eq c_9
          obtain ⟨x_10, ex_10⟩ : ∃ y : Int32, y = k + (-1) := ⟨_, rfl⟩
          have tx_10 : x_10.toInt = k.toInt + (-1) := v_addR (l2 := (-1)) (h2 := (-1)) ex_10 g_k (by decide) (by decide) (by decide)
          refine lv_iinc (v := x_10) (lv' := [(4, .int x_10), (5, .int x_8), (0, .ref oR), (1, .int pl), (2, .ref nx), (3, .ref nd)]) hx hb dX9_build_83 hl (k := 1) rfl (by rw [ex_10]; rfl) (by decide) rfl (fun ls hl => ?_)
          refine lv_goto (tgt := 25) hx hb dX9_build_86 (by decide) ?_
          exact ih_25 x_10 fta lBa loa lta fBa foa fua _ _ _ (ms_lt hm_25 (by show ((x_10.toInt + 1 : Int)) < k.toInt + 1; omega) (by show (0 : Int) < k.toInt + 1; omega)) (by show -1 ≤ x_10.toInt ∧ x_10.toInt ≤ 2; omega) (g_lBa) (g_loa) (g_lta) (bl_sk hbl (by omega) ex_8 (by omega) c_9) (hpr) hP hD hS (lv_sub hl [0, 2, 3, 4, 5] rfl)
        · have tc_9 : ¬ x_8.toInt = (-1) := v_ne c_9
          have hnr := (hnm k.toNatClampNeg (by have c9 := v_clamp (x := k) (by omega); omega)).resolve_left (fun e9 => c_9 (by rw [ex_8, ix_eq (x := x_7) (N := 3 * pl.toNatClampNeg + k.toNatClampNeg) (by have c9 := v_clamp (x := k) (by omega); omega)]; exact e9))
          have hnq : 0 ≤ x_8.toInt ∧ x_8.toInt < lH.toInt := by rw [ex_8, ix_eq (x := x_7) (N := 3 * pl.toNatClampNeg + k.toNatClampNeg) (by have c9 := v_clamp (x := k) (by omega); omega)]; exact hnr
          refine lv_aload_n hx hb dX9_build_49 rfl (lv_at hl 2 rfl) ?_
          refine va_get (D := (dC, dI)) (ci := 9) (v := .ref oH) (C := RX9) (T := TX9) (N := 12) hx hb hts in_X9 hown hK hP 0 rfl rfl 0 (Nat.le_of_ble_eq_true rfl) (hts (.fieldLink RX9 45 "TextMender$Rows" "harms" "LTextMender$Harms;") (List.mem_of_getElem? (i := 3) rfl)) (fun _ h9 => h9) rfl dX9_build_50 ?_
          refine lv_iload hx hb dX9_build_53 (lv_at hl 0 rfl) ?_
          refine lv_aload_n hx hb dX9_build_55 rfl (lv_at hl 2 rfl) ?_
          refine va_get (D := (dC, dI)) (ci := 9) (v := .ref n1) (C := RX9) (T := TX9) (N := 12) hx hb hts in_X9 hown hK hP 0 rfl rfl 2 (Nat.le_of_ble_eq_true rfl) (hts (.fieldLink RX9 14 "TextMender$Rows" "one" "LTextMender$Numbers;") (List.mem_of_getElem? (i := 1) rfl)) (fun _ h9 => h9) rfl dX9_build_56 ?_
          refine lv_aload_n hx hb dX9_build_59 rfl (lv_at hl 2 rfl) ?_
          refine va_get (D := (dC, dI)) (ci := 9) (v := .ref n2) (C := RX9) (T := TX9) (N := 12) hx hb hts in_X9 hown hK hP 0 rfl rfl 3 (Nat.le_of_ble_eq_true rfl) (hts (.fieldLink RX9 20 "TextMender$Rows" "two" "LTextMender$Numbers;") (List.mem_of_getElem? (i := 4) rfl)) (fun _ h9 => h9) rfl dX9_build_60 ?_
          refine kV_i (rest := []) (q0 := 0) (ci := 4) hcf (f_X4_takeOff l dC dI cI cS H.size oH n1 n2 oP h1 h2 oC nB aB a1 a2 o4 o5 a41 a42 a43 a51 a52 a53 lH fH1 fH2 fta lBa fBa loa foa lta fua l4 f41 f42 f43 l5 f51 f52 f53 x_8 (g_lH) (g_lBa) (g_loa) (g_lta) (by omega) (by omega) (hpr) (hT4) (ho4) (hT5) (ho5) (hL4) (hL5) (hBr)) kc_X4_takeOff gX9_build_X4_takeOff rfl rfl rfl ⟨Nat.le_of_ble_eq_true rfl, Nat.le_of_ble_eq_true rfl⟩ (kX_1 hN52) hK hP hD hS hA ([4, 5, 6, 7, 8, 9, 0, 1, 2, 3, 10, 11, 12, 13, 14, 15, 16, 17, 18].filterMap (fun j => (posT mk_38 0)[j]?)) (posF mk_38 0) (kCp (ws := [(n1, .inr (5, [.ref a1, .int loa])), (a1, .inl (cI, 300, .inl foa)), (n2, .inr (5, [.ref a2, .int lta])), (a2, .inl (cI, 300, .inl fua)), (oH, .inr (4, [.ref oP, .ref h1, .ref h2, .int lH])), (h1, .inl (cI, 6, .inl fH1)), (h2, .inl (cI, 6, .inl fH2)), (oP, .inr (7, [.ref oC, .ref nB, .int fta])), (nB, .inr (5, [.ref aB, .int lBa])), (aB, .inl (cI, 2400, .inl fBa)), (oC, .inr (2, [.ref o4, .ref o5])), (o4, .inr (10, [.ref a41, .ref a42, .ref a43, .int l4])), (a41, .inl (cI, 256, .inl f41)), (a42, .inl (cI, 512, .inl f42)), (a43, .inl (cI, 512, .inl f43)), (o5, .inr (10, [.ref a51, .ref a52, .ref a53, .int l5])), (a51, .inl (cI, 256, .inl f51)), (a52, .inl (cI, 512, .inl f52)), (a53, .inl (cI, 512, .inl f53))]) (kC_of mk_38 rfl rfl) rfl) (by decide +kernel) rfl rfl rfl hl rfl (Nat.le_of_ble_eq_true rfl) dX9_build_63 ⟨Nat.le_of_ble_eq_true rfl, Nat.le_of_ble_eq_true rfl⟩ (fun r_11 H locs hB hJ hSn => ?_)
          refine hB _ (fun ft_11 lB_11 fB_11 ld_11 fd_11 hPD9 hf11_0 hf11_1 hf11_2 hf11_3 => ?_)
          clear hB
          obtain ⟨hPn, hDn⟩ := kJm (m := mk_38) hJ rfl hPD9.1 hPD9.2 [6, 7, 8, 9, 0, 1, 2, 3, 4, 5, 10, 11, 12, 13, 14, 15, 16, 17, 18] (by decide +kernel) (ws := [(n1, .inr (5, [.ref a1, .int loa])), (a1, .inl (cI, 300, .inl foa)), (n2, .inr (5, [.ref a2, .int ld_11])), (a2, .inl (cI, 300, .inl fd_11)), (oH, .inr (4, [.ref oP, .ref h1, .ref h2, .int lH])), (h1, .inl (cI, 6, .inl fH1)), (h2, .inl (cI, 6, .inl fH2)), (oP, .inr (7, [.ref oC, .ref nB, .int ft_11])), (nB, .inr (5, [.ref aB, .int lB_11])), (aB, .inl (cI, 2400, .inl fB_11)), (oC, .inr (2, [.ref o4, .ref o5])), (o4, .inr (10, [.ref a41, .ref a42, .ref a43, .int l4])), (a41, .inl (cI, 256, .inl f41)), (a42, .inl (cI, 512, .inl f42)), (a43, .inl (cI, 512, .inl f43)), (o5, .inr (10, [.ref a51, .ref a52, .ref a53, .int l5])), (a51, .inl (cI, 256, .inl f51)), (a52, .inl (cI, 512, .inl f52)), (a53, .inl (cI, 512, .inl f53))]) rfl (wn := [(oR, .inr (9, [.ref oH, .ref oK, .ref n1, .ref n2, .ref n3, .ref r1, .ref r2, .ref r3, .ref r4, .ref r5, .ref r6, .int lR])), (r3, .inl (cI, 774, .inl fR3)), (n1, .inr (5, [.ref a1, .int loa])), (a1, .inl (cI, 300, .inl foa)), (n2, .inr (5, [.ref a2, .int ld_11])), (a2, .inl (cI, 300, .inl fd_11)), (oH, .inr (4, [.ref oP, .ref h1, .ref h2, .int lH])), (h1, .inl (cI, 6, .inl fH1)), (h2, .inl (cI, 6, .inl fH2)), (oP, .inr (7, [.ref oC, .ref nB, .int ft_11])), (nB, .inr (5, [.ref aB, .int lB_11])), (aB, .inl (cI, 2400, .inl fB_11)), (oC, .inr (2, [.ref o4, .ref o5])), (o4, .inr (10, [.ref a41, .ref a42, .ref a43, .int l4])), (a41, .inl (cI, 256, .inl f41)), (a42, .inl (cI, 512, .inl f42)), (a43, .inl (cI, 512, .inl f43)), (o5, .inr (10, [.ref a51, .ref a52, .ref a53, .int l5])), (a51, .inl (cI, 256, .inl f51)), (a52, .inl (cI, 512, .inl f52)), (a53, .inl (cI, 512, .inl f53)), (nx, .inr (5, [.ref ax, .int lx])), (ax, .inl (cI, 300, .inl fx)), (nd, .inr (5, [.ref ad, .int ld])), (ad, .inl (cI, 300, .inl fd))]) rfl
          clear hP hD hS hJ hPD9
          have hP := hPn
          have hD := hDn
          have hS := hSn
          clear hPn hDn hSn
          refine lv_if_ne (tgt := 71) hx hb dX9_build_66 (by decide) (fun c_12 => ?_) (fun c_12 => ?_)
          · have tc_12 : ¬ r_11.toInt = 0 := v_ne c_12
            refine lv_aload_n hx hb dX9_build_71 rfl (lv_at hl 2 rfl) ?_
            refine va_get (D := (dC, dI)) (ci := 9) (v := .ref n1) (C := RX9) (T := TX9) (N := 12) hx hb hts in_X9 hown hK hP 0 rfl rfl 2 (Nat.le_of_ble_eq_true rfl) (hts (.fieldLink RX9 14 "TextMender$Rows" "one" "LTextMender$Numbers;") (List.mem_of_getElem? (i := 1) rfl)) (fun _ h9 => h9) rfl dX9_build_72 ?_
            refine lv_aload_n hx hb dX9_build_75 rfl (lv_at hl 2 rfl) ?_
            refine va_get (D := (dC, dI)) (ci := 9) (v := .ref n2) (C := RX9) (T := TX9) (N := 12) hx hb hts in_X9 hown hK hP 0 rfl rfl 3 (Nat.le_of_ble_eq_true rfl) (hts (.fieldLink RX9 20 "TextMender$Rows" "two" "LTextMender$Numbers;") (List.mem_of_getElem? (i := 4) rfl)) (fun _ h9 => h9) rfl dX9_build_76 ?_
            refine kV_i (rest := []) (q0 := 0) (ci := 5) hcf (m_X5_takeAll l dC dI cI cS H.size n1 n2 a1 a2 300 300 loa foa ld_11 fd_11 (by omega) (by omega) (by omega) (by omega)) kc_X5_takeAll gX9_build_X5_takeAll rfl rfl rfl ⟨Nat.le_of_ble_eq_true rfl, Nat.le_of_ble_eq_true rfl⟩ kX_t hK hP hD hS hA (posT mk_39 0) (posF mk_39 0) (kC_of mk_39 rfl rfl) (by decide +kernel) rfl rfl rfl hl rfl (Nat.le_of_ble_eq_true rfl) dX9_build_79 ⟨Nat.le_of_ble_eq_true rfl, Nat.le_of_ble_eq_true rfl⟩ (fun r_13 H locs hB hJ hSn => ?_)
            refine hB _ (fun lu_13 fu_13 hPD9 hf13_0 hf13_1 hf13_2 => ?_)
            clear hB
            obtain ⟨hPn, hDn⟩ := kJi (m := mk_39) hJ rfl hPD9.1 hPD9.2 (wn := [(oR, .inr (9, [.ref oH, .ref oK, .ref n1, .ref n2, .ref n3, .ref r1, .ref r2, .ref r3, .ref r4, .ref r5, .ref r6, .int lR])), (r3, .inl (cI, 774, .inl fR3)), (n1, .inr (5, [.ref a1, .int lu_13])), (a1, .inl (cI, 300, .inl fu_13)), (n2, .inr (5, [.ref a2, .int ld_11])), (a2, .inl (cI, 300, .inl fd_11)), (oH, .inr (4, [.ref oP, .ref h1, .ref h2, .int lH])), (h1, .inl (cI, 6, .inl fH1)), (h2, .inl (cI, 6, .inl fH2)), (oP, .inr (7, [.ref oC, .ref nB, .int ft_11])), (nB, .inr (5, [.ref aB, .int lB_11])), (aB, .inl (cI, 2400, .inl fB_11)), (oC, .inr (2, [.ref o4, .ref o5])), (o4, .inr (10, [.ref a41, .ref a42, .ref a43, .int l4])), (a41, .inl (cI, 256, .inl f41)), (a42, .inl (cI, 512, .inl f42)), (a43, .inl (cI, 512, .inl f43)), (o5, .inr (10, [.ref a51, .ref a52, .ref a53, .int l5])), (a51, .inl (cI, 256, .inl f51)), (a52, .inl (cI, 512, .inl f52)), (a53, .inl (cI, 512, .inl f53)), (nx, .inr (5, [.ref ax, .int lx])), (ax, .inl (cI, 300, .inl fx)), (nd, .inr (5, [.ref ad, .int ld])), (ad, .inl (cI, 300, .inl fd))]) rfl
            clear hP hD hS hJ hPD9
            have hP := hPn
            have hD := hDn
            have hS := hSn
            clear hPn hDn hSn
            refine lv_pop hx hb dX9_build_82 rfl ?_
            obtain ⟨x_14, ex_14⟩ : ∃ y : Int32, y = k + (-1) := ⟨_, rfl⟩
            have tx_14 : x_14.toInt = k.toInt + (-1) := v_addR (l2 := (-1)) (h2 := (-1)) ex_14 g_k (by decide) (by decide) (by decide)
            refine lv_iinc (v := x_14) (lv' := [(4, .int x_14), (5, .int x_8), (0, .ref oR), (1, .int pl), (2, .ref nx), (3, .ref nd)]) hx hb dX9_build_83 hl (k := 1) rfl (by rw [ex_14]; rfl) (by decide) rfl (fun ls hl => ?_)
            refine lv_goto (tgt := 25) hx hb dX9_build_86 (by decide) ?_
            exact ih_25 x_14 ft_11 lB_11 lu_13 ld_11 fB_11 fu_13 fd_11 _ _ _ (ms_lt hm_25 (by show ((x_14.toInt + 1 : Int)) < k.toInt + 1; omega) (by show (0 : Int) < k.toInt + 1; omega)) (by show -1 ≤ x_14.toInt ∧ x_14.toInt ≤ 2; omega) (hf11_0) (by show 0 ≤ lu_13.toInt ∧ lu_13.toInt ≤ 300; omega) (hf11_1) (bl_do hU hbl (by omega) ex_8 (by omega) c_9 hf11_3 (by omega) hpr (addAll_cp hf13_2 (by omega) (by omega)).1 (addAll_cp hf13_2 (by omega) (by omega)).2) (prg_cp (addAll_cp hf13_2 (by omega) (by omega)).1 (addAll_cp hf13_2 (by omega) (by omega)).2 (to_p hU hf11_3 (by omega) hpr)) hP hD hS (lv_sub hl [0, 2, 3, 4, 5] rfl)
          · have tc_12 : r_11.toInt = 0 := v_eq c_12
            refine lv_iconst (v := 0) hx hb dX9_build_69 (by decide) ?_
            exact kl_z (v := 0) hQQ hx hb hr hlocks hS dX9_build_70 (rfl) (fun PZ9 kZ9 => kZ9 ft_11 lB_11 fB_11 loa foa ld_11 fd_11 ld fd (⟨hP, hD⟩) (hf11_0) (g_loa) (hf11_1) (g_ld) (by decide) (bl_no (m' := k.toInt.toNat) hbl (by omega) ex_8 (by omega) c_9 hf11_3 (by omega) rfl))
  exact LOOP_25 _ 2 ft lB lu_3 l2 fB fu_3 f2 _ _ _ (ms_s _) (by decide) (g_lB) (by show 0 ≤ lu_3.toInt ∧ lu_3.toInt ≤ 300; omega) (g_l2) (bl_0 hU rfl (addAll_cp hf3_2 (by omega) (by omega)).1 (addAll_cp hf3_2 (by omega) (by omega)).2) (prg_cp (addAll_cp hf3_2 (by omega) (by omega)).1 (addAll_cp hf3_2 (by omega) (by omega)).2 hlt) hP hD hS (lv_sub hl [0, 1, 2, 3, 4] rfl)

end

/-! 59t.a.rows -/
section
set_option maxRecDepth 100000 in
theorem dA266_cX11_mend : kDec cX11_mend [(0, .aload_n 0, 1), (1, .iconst (-1), 1), (2, .putfield 90, 3), (5, .iload_n 1, 1), (6, .iconst 1, 1), (7, .if_icmp .lt 19, 3), (26, .iconst (-1), 1), (27, .ireturn, 1), (10, .iload_n 1, 1), (11, .iconst 3, 1), (12, .if_icmp .gt 14, 3), (15, .iload_n 2, 1), (16, .iconst 1, 1), (17, .if_icmp .lt 9, 3), (20, .iload_n 2, 1), (21, .ldc 214, 2), (23, .if_icmp .le 5, 3), (28, .aload_n 0, 1), (29, .getfield 68, 3), (32, .iload_n 1, 1), (33, .aload_n 0, 1), (34, .getfield 34, 3), (37, .invokevirtual 194, 3), (40, .aload_n 0, 1)] = true := by decide +kernel
theorem dX11_mend_0 : decode cX11_mend 0 = .ok (.aload_n 0, 1) := kDec_at dA266_cX11_mend 0 rfl
theorem dX11_mend_1 : decode cX11_mend 1 = .ok (.iconst (-1), 1) := kDec_at dA266_cX11_mend 1 rfl
theorem dX11_mend_2 : decode cX11_mend 2 = .ok (.putfield 90, 3) := kDec_at dA266_cX11_mend 2 rfl
theorem dX11_mend_5 : decode cX11_mend 5 = .ok (.iload_n 1, 1) := kDec_at dA266_cX11_mend 3 rfl
theorem dX11_mend_6 : decode cX11_mend 6 = .ok (.iconst 1, 1) := kDec_at dA266_cX11_mend 4 rfl
theorem dX11_mend_7 : decode cX11_mend 7 = .ok (.if_icmp .lt 19, 3) := kDec_at dA266_cX11_mend 5 rfl
theorem dX11_mend_26 : decode cX11_mend 26 = .ok (.iconst (-1), 1) := kDec_at dA266_cX11_mend 6 rfl
theorem dX11_mend_27 : decode cX11_mend 27 = .ok (.ireturn, 1) := kDec_at dA266_cX11_mend 7 rfl
theorem dX11_mend_10 : decode cX11_mend 10 = .ok (.iload_n 1, 1) := kDec_at dA266_cX11_mend 8 rfl
theorem dX11_mend_11 : decode cX11_mend 11 = .ok (.iconst 3, 1) := kDec_at dA266_cX11_mend 9 rfl
theorem dX11_mend_12 : decode cX11_mend 12 = .ok (.if_icmp .gt 14, 3) := kDec_at dA266_cX11_mend 10 rfl
theorem dX11_mend_15 : decode cX11_mend 15 = .ok (.iload_n 2, 1) := kDec_at dA266_cX11_mend 11 rfl
theorem dX11_mend_16 : decode cX11_mend 16 = .ok (.iconst 1, 1) := kDec_at dA266_cX11_mend 12 rfl
theorem dX11_mend_17 : decode cX11_mend 17 = .ok (.if_icmp .lt 9, 3) := kDec_at dA266_cX11_mend 13 rfl
theorem dX11_mend_20 : decode cX11_mend 20 = .ok (.iload_n 2, 1) := kDec_at dA266_cX11_mend 14 rfl
theorem dX11_mend_21 : decode cX11_mend 21 = .ok (.ldc 214, 2) := kDec_at dA266_cX11_mend 15 rfl
theorem dX11_mend_23 : decode cX11_mend 23 = .ok (.if_icmp .le 5, 3) := kDec_at dA266_cX11_mend 16 rfl
theorem dX11_mend_28 : decode cX11_mend 28 = .ok (.aload_n 0, 1) := kDec_at dA266_cX11_mend 17 rfl
theorem dX11_mend_29 : decode cX11_mend 29 = .ok (.getfield 68, 3) := kDec_at dA266_cX11_mend 18 rfl
theorem dX11_mend_32 : decode cX11_mend 32 = .ok (.iload_n 1, 1) := kDec_at dA266_cX11_mend 19 rfl
theorem dX11_mend_33 : decode cX11_mend 33 = .ok (.aload_n 0, 1) := kDec_at dA266_cX11_mend 20 rfl
theorem dX11_mend_34 : decode cX11_mend 34 = .ok (.getfield 34, 3) := kDec_at dA266_cX11_mend 21 rfl
theorem dX11_mend_37 : decode cX11_mend 37 = .ok (.invokevirtual 194, 3) := kDec_at dA266_cX11_mend 22 rfl
theorem dX11_mend_40 : decode cX11_mend 40 = .ok (.aload_n 0, 1) := kDec_at dA266_cX11_mend 23 rfl
set_option maxRecDepth 20000 in
theorem gX9_find_all : wsX9_find.all goodWord = true := by
  unfold wsX9_find
  exact good_c (by decide +kernel) (good_a (good_a (good_a (good_a (good_a (good_a (good_a (good_a (good_a (good_a (good_a (good_a ((by decide +kernel)) gX9_clsall) gX4_clsall) gX7_clsall) gX5_clsall) gX2_clsall) gX10_clsall) gX3_clsall) gJ7_fill_53178_all) gX4_length_all) gX4_takeOff_all) gX9_note_all) gX9_nameHarms_all)
set_option maxRecDepth 20000 in
theorem ggX11_mend_X9_find : GoodIn wsX11_mend wsX9_find := goodIn_sub (fun _ h => List.mem_cons_of_mem _ (List.mem_append_left _ (List.mem_append_left _ (List.mem_append_left _ (List.mem_append_left _ (List.mem_append_left _ (List.mem_append_left _ (List.mem_append_right _ (h))))))))) gX9_find_all
set_option maxRecDepth 20000 in
theorem gX11_mend_X9_find : GoodIn wsX11_mend (wsV RX11 194 RX9 yX9_find wsX9_find) := goodIn_app (goodIn_r _ [7, 8, 9, 10] rfl (by decide +kernel)) ggX11_mend_X9_find
set_option maxRecDepth 100000 in
theorem dA267_cX11_mend : kDec cX11_mend [(41, .getfield 68, 3), (44, .invokevirtual 215, 3), (47, .istore_n 3, 1), (48, .iload_n 3, 1), (49, .iconst (-1), 1), (50, .if_icmp .eq 27, 3), (77, .iconst (-1), 1), (78, .ireturn, 1), (53, .aload_n 0, 1), (54, .getfield 52, 3), (57, .aload_n 0, 1), (58, .getfield 34, 3), (61, .invokevirtual 211, 3), (64, .aload_n 0, 1), (65, .getfield 68, 3), (68, .iload_n 3, 1), (69, .invokevirtual 218, 3), (72, .isub, 1), (73, .iload_n 2, 1), (74, .if_icmp .ge 5, 3), (79, .aload_n 0, 1), (80, .getfield 68, 3), (83, .iload_n 3, 1), (84, .aload_n 0, 1)] = true := by decide +kernel
theorem dX11_mend_41 : decode cX11_mend 41 = .ok (.getfield 68, 3) := kDec_at dA267_cX11_mend 0 rfl
theorem dX11_mend_44 : decode cX11_mend 44 = .ok (.invokevirtual 215, 3) := kDec_at dA267_cX11_mend 1 rfl
theorem dX11_mend_47 : decode cX11_mend 47 = .ok (.istore_n 3, 1) := kDec_at dA267_cX11_mend 2 rfl
theorem dX11_mend_48 : decode cX11_mend 48 = .ok (.iload_n 3, 1) := kDec_at dA267_cX11_mend 3 rfl
theorem dX11_mend_49 : decode cX11_mend 49 = .ok (.iconst (-1), 1) := kDec_at dA267_cX11_mend 4 rfl
theorem dX11_mend_50 : decode cX11_mend 50 = .ok (.if_icmp .eq 27, 3) := kDec_at dA267_cX11_mend 5 rfl
theorem dX11_mend_77 : decode cX11_mend 77 = .ok (.iconst (-1), 1) := kDec_at dA267_cX11_mend 6 rfl
theorem dX11_mend_78 : decode cX11_mend 78 = .ok (.ireturn, 1) := kDec_at dA267_cX11_mend 7 rfl
theorem dX11_mend_53 : decode cX11_mend 53 = .ok (.aload_n 0, 1) := kDec_at dA267_cX11_mend 8 rfl
theorem dX11_mend_54 : decode cX11_mend 54 = .ok (.getfield 52, 3) := kDec_at dA267_cX11_mend 9 rfl
theorem dX11_mend_57 : decode cX11_mend 57 = .ok (.aload_n 0, 1) := kDec_at dA267_cX11_mend 10 rfl
theorem dX11_mend_58 : decode cX11_mend 58 = .ok (.getfield 34, 3) := kDec_at dA267_cX11_mend 11 rfl
theorem dX11_mend_61 : decode cX11_mend 61 = .ok (.invokevirtual 211, 3) := kDec_at dA267_cX11_mend 12 rfl
theorem dX11_mend_64 : decode cX11_mend 64 = .ok (.aload_n 0, 1) := kDec_at dA267_cX11_mend 13 rfl
theorem dX11_mend_65 : decode cX11_mend 65 = .ok (.getfield 68, 3) := kDec_at dA267_cX11_mend 14 rfl
theorem dX11_mend_68 : decode cX11_mend 68 = .ok (.iload_n 3, 1) := kDec_at dA267_cX11_mend 15 rfl
theorem dX11_mend_69 : decode cX11_mend 69 = .ok (.invokevirtual 218, 3) := kDec_at dA267_cX11_mend 16 rfl
theorem dX11_mend_72 : decode cX11_mend 72 = .ok (.isub, 1) := kDec_at dA267_cX11_mend 17 rfl
theorem dX11_mend_73 : decode cX11_mend 73 = .ok (.iload_n 2, 1) := kDec_at dA267_cX11_mend 18 rfl
theorem dX11_mend_74 : decode cX11_mend 74 = .ok (.if_icmp .ge 5, 3) := kDec_at dA267_cX11_mend 19 rfl
theorem dX11_mend_79 : decode cX11_mend 79 = .ok (.aload_n 0, 1) := kDec_at dA267_cX11_mend 20 rfl
theorem dX11_mend_80 : decode cX11_mend 80 = .ok (.getfield 68, 3) := kDec_at dA267_cX11_mend 21 rfl
theorem dX11_mend_83 : decode cX11_mend 83 = .ok (.iload_n 3, 1) := kDec_at dA267_cX11_mend 22 rfl
theorem dX11_mend_84 : decode cX11_mend 84 = .ok (.aload_n 0, 1) := kDec_at dA267_cX11_mend 23 rfl
set_option maxRecDepth 20000 in
theorem gX9_cheapest_all : wsX9_cheapest.all goodWord = true := by
  unfold wsX9_cheapest
  exact good_c (by decide +kernel) (good_a ((by decide +kernel)) gX9_clsall)
set_option maxRecDepth 20000 in
theorem ggX11_mend_X9_cheapest : GoodIn wsX11_mend wsX9_cheapest := goodIn_sub (fun _ h => List.mem_cons_of_mem _ (List.mem_append_left _ (List.mem_append_left _ (List.mem_append_left _ (List.mem_append_left _ (List.mem_append_left _ (List.mem_append_right _ (h)))))))) gX9_cheapest_all
set_option maxRecDepth 20000 in
theorem gX11_mend_X9_cheapest : GoodIn wsX11_mend (wsV RX11 215 RX9 yX9_cheapest wsX9_cheapest) := goodIn_app (goodIn_r _ [15, 16, 17, 10] rfl (by decide +kernel)) ggX11_mend_X9_cheapest
set_option maxRecDepth 20000 in
theorem ggX11_mend_X3_ofText : GoodIn wsX11_mend wsX3_ofText := goodIn_sub (fun _ h => List.mem_cons_of_mem _ (List.mem_append_left _ (List.mem_append_left _ (List.mem_append_left _ (List.mem_append_left _ (List.mem_append_right _ (h))))))) gX3_ofText_all
set_option maxRecDepth 20000 in
theorem gX11_mend_X3_ofText : GoodIn wsX11_mend (wsV RX11 211 RX3 yX3_ofText wsX3_ofText) := goodIn_app (goodIn_r _ [18, 12, 13, 14] rfl (by decide +kernel)) ggX11_mend_X3_ofText
set_option maxRecDepth 20000 in
theorem gX9_costAt_all : wsX9_costAt.all goodWord = true := by
  unfold wsX9_costAt
  exact good_c (by decide +kernel) (good_a ((by decide +kernel)) gX9_clsall)
set_option maxRecDepth 20000 in
theorem ggX11_mend_X9_costAt : GoodIn wsX11_mend wsX9_costAt := goodIn_sub (fun _ h => List.mem_cons_of_mem _ (List.mem_append_left _ (List.mem_append_left _ (List.mem_append_left _ (List.mem_append_right _ (h)))))) gX9_costAt_all
set_option maxRecDepth 20000 in
theorem gX11_mend_X9_costAt : GoodIn wsX11_mend (wsV RX11 218 RX9 yX9_costAt wsX9_costAt) := goodIn_app (goodIn_r _ [19, 20, 21, 10] rfl (by decide +kernel)) ggX11_mend_X9_costAt
set_option maxRecDepth 100000 in
theorem dA268_cX11_mend : kDec cX11_mend [(85, .getfield 34, 3), (88, .aload_n 0, 1), (89, .getfield 37, 3), (92, .invokevirtual 221, 3), (95, .ifCond .ne 5, 3), (100, .aload_n 0, 1), (101, .aload_n 0, 1), (102, .getfield 37, 3), (105, .invokevirtual 113, 3), (108, .pop, 1), (109, .aload_n 0, 1), (110, .getfield 68, 3), (113, .iload_n 3, 1), (114, .invokevirtual 224, 3), (117, .ireturn, 1), (98, .iconst (-1), 1), (99, .ireturn, 1)] = true := by decide +kernel
theorem dX11_mend_85 : decode cX11_mend 85 = .ok (.getfield 34, 3) := kDec_at dA268_cX11_mend 0 rfl
theorem dX11_mend_88 : decode cX11_mend 88 = .ok (.aload_n 0, 1) := kDec_at dA268_cX11_mend 1 rfl
theorem dX11_mend_89 : decode cX11_mend 89 = .ok (.getfield 37, 3) := kDec_at dA268_cX11_mend 2 rfl
theorem dX11_mend_92 : decode cX11_mend 92 = .ok (.invokevirtual 221, 3) := kDec_at dA268_cX11_mend 3 rfl
theorem dX11_mend_95 : decode cX11_mend 95 = .ok (.ifCond .ne 5, 3) := kDec_at dA268_cX11_mend 4 rfl
theorem dX11_mend_100 : decode cX11_mend 100 = .ok (.aload_n 0, 1) := kDec_at dA268_cX11_mend 5 rfl
theorem dX11_mend_101 : decode cX11_mend 101 = .ok (.aload_n 0, 1) := kDec_at dA268_cX11_mend 6 rfl
theorem dX11_mend_102 : decode cX11_mend 102 = .ok (.getfield 37, 3) := kDec_at dA268_cX11_mend 7 rfl
theorem dX11_mend_105 : decode cX11_mend 105 = .ok (.invokevirtual 113, 3) := kDec_at dA268_cX11_mend 8 rfl
theorem dX11_mend_108 : decode cX11_mend 108 = .ok (.pop, 1) := kDec_at dA268_cX11_mend 9 rfl
theorem dX11_mend_109 : decode cX11_mend 109 = .ok (.aload_n 0, 1) := kDec_at dA268_cX11_mend 10 rfl
theorem dX11_mend_110 : decode cX11_mend 110 = .ok (.getfield 68, 3) := kDec_at dA268_cX11_mend 11 rfl
theorem dX11_mend_113 : decode cX11_mend 113 = .ok (.iload_n 3, 1) := kDec_at dA268_cX11_mend 12 rfl
theorem dX11_mend_114 : decode cX11_mend 114 = .ok (.invokevirtual 224, 3) := kDec_at dA268_cX11_mend 13 rfl
theorem dX11_mend_117 : decode cX11_mend 117 = .ok (.ireturn, 1) := kDec_at dA268_cX11_mend 14 rfl
theorem dX11_mend_98 : decode cX11_mend 98 = .ok (.iconst (-1), 1) := kDec_at dA268_cX11_mend 15 rfl
theorem dX11_mend_99 : decode cX11_mend 99 = .ok (.ireturn, 1) := kDec_at dA268_cX11_mend 16 rfl
set_option maxRecDepth 20000 in
theorem gX9_build_all : wsX9_build.all goodWord = true := by
  unfold wsX9_build
  exact good_c (by decide +kernel) (good_a (good_a (good_a (good_a (good_a (good_a (good_a (good_a ((by decide +kernel)) gX9_clsall) gX5_clsall) gX4_clsall) gX7_clsall) gX2_clsall) gX10_clsall) gX5_takeAll_all) gX4_takeOff_all)
set_option maxRecDepth 20000 in
theorem ggX11_mend_X9_build : GoodIn wsX11_mend wsX9_build := goodIn_sub (fun _ h => List.mem_cons_of_mem _ (List.mem_append_left _ (List.mem_append_left _ (List.mem_append_right _ (h))))) gX9_build_all
set_option maxRecDepth 20000 in
theorem gX11_mend_X9_build : GoodIn wsX11_mend (wsV RX11 221 RX9 yX9_build wsX9_build) := goodIn_app (goodIn_r _ [22, 23, 24, 10] rfl (by decide +kernel)) ggX11_mend_X9_build
set_option maxRecDepth 20000 in
theorem ggX11_mend_X11_become : GoodIn wsX11_mend wsX11_become := goodIn_sub (fun _ h => List.mem_cons_of_mem _ (List.mem_append_left _ (List.mem_append_right _ (h)))) gX11_become_all
set_option maxRecDepth 20000 in
theorem gX11_mend_X11_become : GoodIn wsX11_mend (wsV RX11 113 RX11 yX11_become wsX11_become) := goodIn_app (goodIn_r _ [25, 26, 27, 11] rfl (by decide +kernel)) ggX11_mend_X11_become
set_option maxRecDepth 20000 in
theorem gX9_numberOf_all : wsX9_numberOf.all goodWord = true := by
  unfold wsX9_numberOf
  exact good_c (by decide +kernel) (good_a ((by decide +kernel)) gX9_clsall)
set_option maxRecDepth 20000 in
theorem ggX11_mend_X9_numberOf : GoodIn wsX11_mend wsX9_numberOf := goodIn_sub (fun _ h => List.mem_cons_of_mem _ (List.mem_append_right _ (h))) gX9_numberOf_all
set_option maxRecDepth 20000 in
theorem gX11_mend_X9_numberOf : GoodIn wsX11_mend (wsV RX11 224 RX9 yX9_numberOf wsX9_numberOf) := goodIn_app (goodIn_r _ [28, 29, 30, 10] rfl (by decide +kernel)) ggX11_mend_X9_numberOf

end

/-! 59t.rows -/
section
set_option maxHeartbeats 40000000 in
set_option maxRecDepth 100000 in
theorem f_X11_mend (l : Launch) (dC : Nat → ClassId) (dI : Nat → Nat → Nat) (cI cS : ClassId) (sz : Nat) (oX : Nat) (nT : Nat) (nL : Nat) (nM : Nat) (oC : Nat) (oP : Nat) (oH : Nat) (oK : Nat) (oG : Nat) (oR : Nat) (oQ : Nat) (oW : Nat) (n1 : Nat) (n2 : Nat) (n3 : Nat) (r1 : Nat) (r2 : Nat) (r3 : Nat) (r4 : Nat) (r5 : Nat) (r6 : Nat) (a1 : Nat) (a2 : Nat) (a3 : Nat) (h1 : Nat) (h2 : Nat) (nB : Nat) (aB : Nat) (o4 : Nat) (o5 : Nat) (a41 : Nat) (a42 : Nat) (a43 : Nat) (a51 : Nat) (a52 : Nat) (a53 : Nat) (k1 : Nat) (k2 : Nat) (aL : Nat) (aM : Nat) (g1 : Nat) (g2 : Nat) (nw : Nat) (w1 : Nat) (w2 : Nat) (w3 : Nat) (o7 : Nat) (o8 : Nat) (o9 : Nat) (w4 : Nat) (w5 : Nat) (w6 : Nat) (w7 : Nat) (fa : Int32) (lR : Int32) (fR1 : Nat → Int32) (fR2 : Nat → Int32) (fR3 : Nat → Int32) (l1 : Int32) (f1 : Nat → Int32) (l2 : Int32) (f2 : Nat → Int32) (l3 : Int32) (f3 : Nat → Int32) (lH : Int32) (fH1 : Nat → Int32) (fH2 : Nat → Int32) (ft : Int32) (lB : Int32) (fB : Nat → Int32) (l4 : Int32) (f41 : Nat → Int32) (f42 : Nat → Int32) (f43 : Nat → Int32) (l5 : Int32) (f51 : Nat → Int32) (f52 : Nat → Int32) (f53 : Nat → Int32) (lK : Int32) (fK1 : Nat → Int32) (fK2 : Nat → Int32) (lL : Int32) (fL : Nat → Int32) (lM : Int32) (fM : Nat → Int32) (gn : Int32) (lG : Int32) (fG1 : Nat → Int32) (fG2 : Nat → Int32) (ke : Int32) (tl : Int32) (fsh : Int32) (wi : Int32) (ri : Int32) (fm : Int32) (lm : Int32) (n : Int32) (gn_ : Int32) (g_lR : 0 ≤ lR.toInt ∧ lR.toInt ≤ 258) (g_l1 : 0 ≤ l1.toInt ∧ l1.toInt ≤ 300) (g_l2 : 0 ≤ l2.toInt ∧ l2.toInt ≤ 300) (g_l3 : 0 ≤ l3.toInt ∧ l3.toInt ≤ 300) (g_lH : 0 ≤ lH.toInt ∧ lH.toInt ≤ 6) (g_lB : 0 ≤ lB.toInt ∧ lB.toInt ≤ 2400) (g_lK : 0 ≤ lK.toInt ∧ lK.toInt ≤ 300) (g_lL : 0 ≤ lL.toInt ∧ lL.toInt ≤ 300) (g_lM : 0 ≤ lM.toInt ∧ lM.toInt ≤ 300) (g_gn : 0 ≤ gn.toInt ∧ gn.toInt ≤ 19) (g_lG : 0 ≤ lG.toInt ∧ lG.toInt ≤ 20) (g_fG2 : rg 0 300 fG2) (g_ke : 0 ≤ ke.toInt ∧ ke.toInt ≤ 200) (g_fsh : 0 ≤ fsh.toInt ∧ fsh.toInt ≤ 1) (g_fm : -1 ≤ fm.toInt ∧ fm.toInt ≤ 800) (g_lm : -1 ≤ lm.toInt ∧ lm.toInt ≤ 800) (hlt : prg lL.toInt 0 65535 fL) (hT4 : HT 512 511 hsT f42 f43) (ho4 : (occ f43 512 : Int) ≤ 511) (hT5 : HT 512 511 hsT f52 f53) (ho5 : (occ f53 512 : Int) ≤ 511) (hL4 : prg 256 (-1) 65535 f41) (hL5 : prg 256 (-1) 65535 f51) (hBr : ∀ cd : Int32, okB (Bc cd f42 f43 f52 f53)) (hT : HT 1024 1023 hsK fK1 fK2) (ho : (occ fK2 1024 : Int) ≤ lK.toInt) (hV : prg 1024 (-1) 200 fK2) : kMi l yX11_mend wsX11_mend ({ frames := 7, cells := 0, slots := 0, locals := 175 } : Room) [.ref oX, .int n, .int gn_] sz (dC, dI) vwCl [(cI, .int), (cS, .short)] [(oX, .inr (11, [.ref nT, .ref nL, .ref nM, .ref oC, .ref oP, .ref oH, .ref oK, .ref oG, .ref oR, .ref oQ, .ref oW, .int fa])), (oR, .inr (9, [.ref oH, .ref oK, .ref n1, .ref n2, .ref n3, .ref r1, .ref r2, .ref r3, .ref r4, .ref r5, .ref r6, .int lR])), (r1, .inl (cI, 258, .inl fR1)), (r2, .inl (cI, 258, .inl fR2)), (r3, .inl (cI, 774, .inl fR3)), (n1, .inr (5, [.ref a1, .int l1])), (a1, .inl (cI, 300, .inl f1)), (n2, .inr (5, [.ref a2, .int l2])), (a2, .inl (cI, 300, .inl f2)), (n3, .inr (5, [.ref a3, .int l3])), (a3, .inl (cI, 300, .inl f3)), (oH, .inr (4, [.ref oP, .ref h1, .ref h2, .int lH])), (h1, .inl (cI, 6, .inl fH1)), (h2, .inl (cI, 6, .inl fH2)), (oP, .inr (7, [.ref oC, .ref nB, .int ft])), (nB, .inr (5, [.ref aB, .int lB])), (aB, .inl (cI, 2400, .inl fB)), (oC, .inr (2, [.ref o4, .ref o5])), (o4, .inr (10, [.ref a41, .ref a42, .ref a43, .int l4])), (a41, .inl (cI, 256, .inl f41)), (a42, .inl (cI, 512, .inl f42)), (a43, .inl (cI, 512, .inl f43)), (o5, .inr (10, [.ref a51, .ref a52, .ref a53, .int l5])), (a51, .inl (cI, 256, .inl f51)), (a52, .inl (cI, 512, .inl f52)), (a53, .inl (cI, 512, .inl f53)), (oK, .inr (3, [.ref k1, .ref k2, .int lK])), (k1, .inl (cI, 1024, .inl fK1)), (k2, .inl (cI, 1024, .inl fK2)), (nL, .inr (5, [.ref aL, .int lL])), (aL, .inl (cI, 300, .inl fL)), (nM, .inr (5, [.ref aM, .int lM])), (aM, .inl (cI, 300, .inl fM)), (oG, .inr (0, [.ref g1, .ref g2, .int gn, .int lG])), (g1, .inl (cI, 6000, .inl fG1)), (g2, .inl (cI, 20, .inl fG2)), (oW, .inr (1, [.ref oC, .ref oK, .ref nw, .ref w1, .ref w2, .ref w3, .ref o7, .ref o8, .ref o9, .ref w4, .ref w5, .ref w6, .ref w7, .int ke, .int tl, .int fsh, .int wi, .int ri, .int fm, .int lm]))] (va_Nw (.methodLinkNest RX2 52 yX11_isLetter "TextMender")) 0 0 (fun (A : Nat → Prop) (r : Int32) (hh9 : Heap) => ∀ PZ9 : Prop, (∀ (fa' : Int32) (ft' : Int32) (lB' : Int32) (fB' : Nat → Int32) (l1' : Int32) (f1' : Nat → Int32) (l2' : Int32) (f2' : Nat → Int32) (l3' : Int32) (f3' : Nat → Int32) (fR1' : Nat → Int32) (fR2' : Nat → Int32) (fR3' : Nat → Int32) (lM' : Int32) (fM' : Nat → Int32) (lL' : Int32) (fL' : Nat → Int32) (fsh' : Int32) (gn' : Int32) (lG' : Int32) (fG1' : Nat → Int32) (fG2' : Nat → Int32), kPD (dC, dI) vwCl A [(oX, .inr (11, [.ref nT, .ref nL, .ref nM, .ref oC, .ref oP, .ref oH, .ref oK, .ref oG, .ref oR, .ref oQ, .ref oW, .int fa'])), (oR, .inr (9, [.ref oH, .ref oK, .ref n1, .ref n2, .ref n3, .ref r1, .ref r2, .ref r3, .ref r4, .ref r5, .ref r6, .int lR])), (r1, .inl (cI, 258, .inl fR1')), (r2, .inl (cI, 258, .inl fR2')), (r3, .inl (cI, 774, .inl fR3')), (n1, .inr (5, [.ref a1, .int l1'])), (a1, .inl (cI, 300, .inl f1')), (n2, .inr (5, [.ref a2, .int l2'])), (a2, .inl (cI, 300, .inl f2')), (n3, .inr (5, [.ref a3, .int l3'])), (a3, .inl (cI, 300, .inl f3')), (oH, .inr (4, [.ref oP, .ref h1, .ref h2, .int lH])), (h1, .inl (cI, 6, .inl fH1)), (h2, .inl (cI, 6, .inl fH2)), (oP, .inr (7, [.ref oC, .ref nB, .int ft'])), (nB, .inr (5, [.ref aB, .int lB'])), (aB, .inl (cI, 2400, .inl fB')), (oC, .inr (2, [.ref o4, .ref o5])), (o4, .inr (10, [.ref a41, .ref a42, .ref a43, .int l4])), (a41, .inl (cI, 256, .inl f41)), (a42, .inl (cI, 512, .inl f42)), (a43, .inl (cI, 512, .inl f43)), (o5, .inr (10, [.ref a51, .ref a52, .ref a53, .int l5])), (a51, .inl (cI, 256, .inl f51)), (a52, .inl (cI, 512, .inl f52)), (a53, .inl (cI, 512, .inl f53)), (oK, .inr (3, [.ref k1, .ref k2, .int lK])), (k1, .inl (cI, 1024, .inl fK1)), (k2, .inl (cI, 1024, .inl fK2)), (nL, .inr (5, [.ref aL, .int lL'])), (aL, .inl (cI, 300, .inl fL')), (nM, .inr (5, [.ref aM, .int lM'])), (aM, .inl (cI, 300, .inl fM')), (oG, .inr (0, [.ref g1, .ref g2, .int gn', .int lG'])), (g1, .inl (cI, 6000, .inl fG1')), (g2, .inl (cI, 20, .inl fG2')), (oW, .inr (1, [.ref oC, .ref oK, .ref nw, .ref w1, .ref w2, .ref w3, .ref o7, .ref o8, .ref o9, .ref w4, .ref w5, .ref w6, .ref w7, .int ke, .int tl, .int fsh', .int wi, .int ri, .int fm, .int lm]))] hh9 → (0 ≤ lB'.toInt ∧ lB'.toInt ≤ 2400) → (0 ≤ l1'.toInt ∧ l1'.toInt ≤ 300) → (0 ≤ l2'.toInt ∧ l2'.toInt ≤ 300) → (0 ≤ l3'.toInt ∧ l3'.toInt ≤ 300) → (0 ≤ lM'.toInt ∧ lM'.toInt ≤ 300) → (0 ≤ lL'.toInt ∧ lL'.toInt ≤ 300) → (0 ≤ fsh'.toInt ∧ fsh'.toInt ≤ 1) → (0 ≤ gn'.toInt ∧ gn'.toInt ≤ 19) → (0 ≤ lG'.toInt ∧ lG'.toInt ≤ 20) → (rg 0 300 fG2') → ((¬ (1 ≤ n.toInt ∧ n.toInt ≤ 3 ∧ 1 ≤ gn_.toInt ∧ gn_.toInt ≤ 100000)) ∨ rGE (UC fH1 fH2 f41 f42 f43 f51 f52 f53) (tcC fK1 fK2) lH.toNatClampNeg lL.toInt.toNat fL n.toInt fR1' fR2' fR3') → (OC (-1) r fsh fsh' gn gn' lG lG' lL lL' fG1 fG1' fG2 fG2' fL fL' (mdP (UC fH1 fH2 f41 f42 f43 f51 f52 f53) (tcC fK1 fK2) lH.toNatClampNeg lL.toInt.toNat fL n.toInt gn_.toInt fR1')) → PZ9) → PZ9) := by
  refine kMi_of (cc := cX11_mend) (maxL := 4) (ret := (some .int)) (lv := [(0, .ref oX), (1, .int n), (2, .int gn_)]) (by decide +kernel) rfl rfl (Nat.le_of_ble_eq_true rfl) ?_
  intro p e s m below meth c A QQ ls hx hb hr hts hml hown hlocks hA hQQ hK hX hP hD hS hl
  have hown : s.vm.findClass RX11 = some m.cls := hown
  have hcf := k_cf hx hb hml hown hts
  have hN52 := hX
  have in_X11 : ∀ w ∈ wsX110, w ∈ wsX11_mend := fun _ h => List.mem_cons_of_mem _ (List.mem_append_left _ (List.mem_append_left _ (List.mem_append_left _ (List.mem_append_left _ (List.mem_append_left _ (List.mem_append_left _ (List.mem_append_left _ (List.mem_append_left _ (List.mem_append_left _ (List.mem_append_left _ (List.mem_append_left _ (List.mem_append_left _ (List.mem_append_left _ (List.mem_append_left _ (List.mem_append_left _ (List.mem_append_left _ (List.mem_append_right _ (h))))))))))))))))))
  replace g_lR := hid g_lR
  replace g_l1 := hid g_l1
  replace g_l2 := hid g_l2
  replace g_l3 := hid g_l3
  replace g_lB := hid g_lB
  replace g_lM := hid g_lM
  replace g_ke := hid g_ke
  replace g_lm := hid g_lm
  have hU : okU (UC fH1 fH2 f41 f42 f43 f51 f52 f53) := okU_C hBr hL4 hL5
  have hf9 : prg ((lL.toInt.toNat : Nat) : Int) 0 65535 fL := fun j hj => hlt j (by omega)
  refine lv_aload_n hx hb dX11_mend_0 rfl (lv_at hl 0 rfl) ?_
  refine lv_iconst (v := (-1)) hx hb dX11_mend_1 (by decide) ?_
  refine va_put (D := (dC, dI)) (ci := 11) (v := .int (-1)) (ty := .int) (C := RX11) (T := TX11) (N := 12) hx hb hts in_X11 tyX11 tyX11_ok nmX11 hown hK hP hD hS 0 rfl rfl 11 (Nat.le_of_ble_eq_true rfl) (hts (.fieldLink RX11 90 "TextMender" "fault" "I") (List.mem_of_getElem? (i := 1) rfl)) (fun _ h9 => h9) rfl (tyX11_ok 11 (Nat.le_of_ble_eq_true rfl)) rfl rfl (Nat.le_of_ble_eq_true rfl) dX11_mend_2 (kW (wn := [(oX, .inr (11, [.ref nT, .ref nL, .ref nM, .ref oC, .ref oP, .ref oH, .ref oK, .ref oG, .ref oR, .ref oQ, .ref oW, .int (-1)])), (oR, .inr (9, [.ref oH, .ref oK, .ref n1, .ref n2, .ref n3, .ref r1, .ref r2, .ref r3, .ref r4, .ref r5, .ref r6, .int lR])), (r1, .inl (cI, 258, .inl fR1)), (r2, .inl (cI, 258, .inl fR2)), (r3, .inl (cI, 774, .inl fR3)), (n1, .inr (5, [.ref a1, .int l1])), (a1, .inl (cI, 300, .inl f1)), (n2, .inr (5, [.ref a2, .int l2])), (a2, .inl (cI, 300, .inl f2)), (n3, .inr (5, [.ref a3, .int l3])), (a3, .inl (cI, 300, .inl f3)), (oH, .inr (4, [.ref oP, .ref h1, .ref h2, .int lH])), (h1, .inl (cI, 6, .inl fH1)), (h2, .inl (cI, 6, .inl fH2)), (oP, .inr (7, [.ref oC, .ref nB, .int ft])), (nB, .inr (5, [.ref aB, .int lB])), (aB, .inl (cI, 2400, .inl fB)), (oC, .inr (2, [.ref o4, .ref o5])), (o4, .inr (10, [.ref a41, .ref a42, .ref a43, .int l4])), (a41, .inl (cI, 256, .inl f41)), (a42, .inl (cI, 512, .inl f42)), (a43, .inl (cI, 512, .inl f43)), (o5, .inr (10, [.ref a51, .ref a52, .ref a53, .int l5])), (a51, .inl (cI, 256, .inl f51)), (a52, .inl (cI, 512, .inl f52)), (a53, .inl (cI, 512, .inl f53)), (oK, .inr (3, [.ref k1, .ref k2, .int lK])), (k1, .inl (cI, 1024, .inl fK1)), (k2, .inl (cI, 1024, .inl fK2)), (nL, .inr (5, [.ref aL, .int lL])), (aL, .inl (cI, 300, .inl fL)), (nM, .inr (5, [.ref aM, .int lM])), (aM, .inl (cI, 300, .inl fM)), (oG, .inr (0, [.ref g1, .ref g2, .int gn, .int lG])), (g1, .inl (cI, 6000, .inl fG1)), (g2, .inl (cI, 20, .inl fG2)), (oW, .inr (1, [.ref oC, .ref oK, .ref nw, .ref w1, .ref w2, .ref w3, .ref o7, .ref o8, .ref o9, .ref w4, .ref w5, .ref w6, .ref w7, .int ke, .int tl, .int fsh, .int wi, .int ri, .int fm, .int lm]))]) rfl (fun H locs hPn hDn hSn => ?_))
  clear hP hD hS
  have hP := hPn
  have hD := hDn
  have hS := hSn
  clear hPn hDn hSn
  refine lv_iload_n hx hb dX11_mend_5 rfl (lv_at hl 1 rfl) ?_
  refine lv_iconst (v := 1) hx hb dX11_mend_6 (by decide) ?_
  refine lv_icmp_lt (tgt := 26) hx hb dX11_mend_7 (by decide) (fun c_1 => ?_) (fun c_1 => ?_)
  · have tc_1 : n.toInt < 1 := v_lt c_1
    refine lv_iconst (v := (-1)) hx hb dX11_mend_26 (by decide) ?_
    exact kl_i (v := (-1)) hQQ hx hb hr hlocks hS dX11_mend_27 (fun PZ9 kZ9 => kZ9 (-1) ft lB fB l1 f1 l2 f2 l3 f3 fR1 fR2 fR3 lM fM lL fL fsh gn lG fG1 fG2 (⟨hP, hD⟩) (g_lB) (g_l1) (g_l2) (g_l3) (g_lM) (g_lL) (g_fsh) (g_gn) (g_lG) (g_fG2) (Or.inl (by omega)) (OC_n rfl (fun c fm v h => absurd h.1 (by omega))))
  · have tc_1 : 1 ≤ n.toInt := v_nlt c_1
    refine lv_iload_n hx hb dX11_mend_10 rfl (lv_at hl 1 rfl) ?_
    refine lv_iconst (v := 3) hx hb dX11_mend_11 (by decide) ?_
    refine lv_icmp_gt (tgt := 26) hx hb dX11_mend_12 (by decide) (fun c_2 => ?_) (fun c_2 => ?_)
    · have tc_2 : 3 < n.toInt := v_lt c_2
      refine lv_iconst (v := (-1)) hx hb dX11_mend_26 (by decide) ?_
      exact kl_i (v := (-1)) hQQ hx hb hr hlocks hS dX11_mend_27 (fun PZ9 kZ9 => kZ9 (-1) ft lB fB l1 f1 l2 f2 l3 f3 fR1 fR2 fR3 lM fM lL fL fsh gn lG fG1 fG2 (⟨hP, hD⟩) (g_lB) (g_l1) (g_l2) (g_l3) (g_lM) (g_lL) (g_fsh) (g_gn) (g_lG) (g_fG2) (Or.inl (by omega)) (OC_n rfl (fun c fm v h => absurd h.1 (by omega))))
    · have tc_2 : n.toInt ≤ 3 := v_nlt c_2
      refine lv_iload_n hx hb dX11_mend_15 rfl (lv_at hl 2 rfl) ?_
      refine lv_iconst (v := 1) hx hb dX11_mend_16 (by decide) ?_
      refine lv_icmp_lt (tgt := 26) hx hb dX11_mend_17 (by decide) (fun c_3 => ?_) (fun c_3 => ?_)
      · have tc_3 : gn_.toInt < 1 := v_lt c_3
        refine lv_iconst (v := (-1)) hx hb dX11_mend_26 (by decide) ?_
        exact kl_i (v := (-1)) hQQ hx hb hr hlocks hS dX11_mend_27 (fun PZ9 kZ9 => kZ9 (-1) ft lB fB l1 f1 l2 f2 l3 f3 fR1 fR2 fR3 lM fM lL fL fsh gn lG fG1 fG2 (⟨hP, hD⟩) (g_lB) (g_l1) (g_l2) (g_l3) (g_lM) (g_lL) (g_fsh) (g_gn) (g_lG) (g_fG2) (Or.inl (by omega)) (OC_n rfl (fun c fm v h => absurd h.1 (by omega))))
      · have tc_3 : 1 ≤ gn_.toInt := v_nlt c_3
        refine lv_iload_n hx hb dX11_mend_20 rfl (lv_at hl 2 rfl) ?_
        refine lv_ldc hx hb hown (hts (.constant RX11 214 (100000)) (List.mem_of_getElem? (i := 2) rfl)) dX11_mend_21 ?_
        refine lv_icmp_le (tgt := 28) hx hb dX11_mend_23 (by decide) (fun c_4 => ?_) (fun c_4 => ?_)
        · have tc_4 : gn_.toInt ≤ 100000 := v_le c_4
          refine lv_aload_n hx hb dX11_mend_28 rfl (lv_at hl 0 rfl) ?_
          refine va_get (D := (dC, dI)) (ci := 11) (v := .ref oR) (C := RX11) (T := TX11) (N := 12) hx hb hts in_X11 hown hK hP 0 rfl rfl 8 (Nat.le_of_ble_eq_true rfl) (hts (.fieldLink RX11 68 "TextMender" "rowBook" "LTextMender$Rows;") (List.mem_of_getElem? (i := 3) rfl)) (fun _ h9 => h9) rfl dX11_mend_29 ?_
          refine lv_iload_n hx hb dX11_mend_32 rfl (lv_at hl 1 rfl) ?_
          refine lv_aload_n hx hb dX11_mend_33 rfl (lv_at hl 0 rfl) ?_
          refine va_get (D := (dC, dI)) (ci := 11) (v := .ref nL) (C := RX11) (T := TX11) (N := 12) hx hb hts in_X11 hown hK hP 0 rfl rfl 1 (Nat.le_of_ble_eq_true rfl) (hts (.fieldLink RX11 34 "TextMender" "letters" "LTextMender$Numbers;") (List.mem_of_getElem? (i := 4) rfl)) (fun _ h9 => h9) rfl dX11_mend_34 ?_
          refine kV_v (rest := []) (q0 := 0) (ci := 9) hcf (f_X9_find l dC dI cI cS H.size oR nL oH oK n1 n2 n3 r1 r2 r3 r4 r5 r6 a1 a2 a3 oP h1 h2 oC nB aB o4 o5 a41 a42 a43 a51 a52 a53 k1 k2 aL lR fR1 fR2 fR3 l1 f1 l2 f2 l3 f3 lH fH1 fH2 ft lB fB l4 f41 f42 f43 l5 f51 f52 f53 lK fK1 fK2 lL fL n (g_lR) (g_l1) (g_l2) (g_l3) (g_lH) (g_lB) (g_lK) (g_lL) (by omega) (hlt) (hT4) (ho4) (hT5) (ho5) (hL4) (hL5) (hBr) (hT) (ho) (hV)) kc_X9_find gX11_mend_X9_find rfl rfl rfl ⟨Nat.le_of_ble_eq_true rfl, Nat.le_of_ble_eq_true rfl⟩ (kX_1 hN52) hK hP hD hS hA (posT mk_141 0) (posF mk_141 0) (kC_of mk_141 rfl rfl) (by decide +kernel) rfl rfl rfl hl rfl (Nat.le_of_ble_eq_true rfl) dX11_mend_37 ⟨Nat.le_of_ble_eq_true rfl, Nat.le_of_ble_eq_true rfl⟩ (fun H locs hB hJ hSn => ?_)
          refine hB _ (fun ft_5 lB_5 fB_5 l1_5 f1_5 l2_5 f2_5 l3_5 f3_5 fR1_5 fR2_5 fR3_5 hPD9 hf5_0 hf5_1 hf5_2 hf5_3 hf5_4 => ?_)
          clear hB
          obtain ⟨hPn, hDn⟩ := kJi (m := mk_141) hJ rfl hPD9.1 hPD9.2 (wn := [(oX, .inr (11, [.ref nT, .ref nL, .ref nM, .ref oC, .ref oP, .ref oH, .ref oK, .ref oG, .ref oR, .ref oQ, .ref oW, .int (-1)])), (oR, .inr (9, [.ref oH, .ref oK, .ref n1, .ref n2, .ref n3, .ref r1, .ref r2, .ref r3, .ref r4, .ref r5, .ref r6, .int lR])), (r1, .inl (cI, 258, .inl fR1_5)), (r2, .inl (cI, 258, .inl fR2_5)), (r3, .inl (cI, 774, .inl fR3_5)), (n1, .inr (5, [.ref a1, .int l1_5])), (a1, .inl (cI, 300, .inl f1_5)), (n2, .inr (5, [.ref a2, .int l2_5])), (a2, .inl (cI, 300, .inl f2_5)), (n3, .inr (5, [.ref a3, .int l3_5])), (a3, .inl (cI, 300, .inl f3_5)), (oH, .inr (4, [.ref oP, .ref h1, .ref h2, .int lH])), (h1, .inl (cI, 6, .inl fH1)), (h2, .inl (cI, 6, .inl fH2)), (oP, .inr (7, [.ref oC, .ref nB, .int ft_5])), (nB, .inr (5, [.ref aB, .int lB_5])), (aB, .inl (cI, 2400, .inl fB_5)), (oC, .inr (2, [.ref o4, .ref o5])), (o4, .inr (10, [.ref a41, .ref a42, .ref a43, .int l4])), (a41, .inl (cI, 256, .inl f41)), (a42, .inl (cI, 512, .inl f42)), (a43, .inl (cI, 512, .inl f43)), (o5, .inr (10, [.ref a51, .ref a52, .ref a53, .int l5])), (a51, .inl (cI, 256, .inl f51)), (a52, .inl (cI, 512, .inl f52)), (a53, .inl (cI, 512, .inl f53)), (oK, .inr (3, [.ref k1, .ref k2, .int lK])), (k1, .inl (cI, 1024, .inl fK1)), (k2, .inl (cI, 1024, .inl fK2)), (nL, .inr (5, [.ref aL, .int lL])), (aL, .inl (cI, 300, .inl fL)), (nM, .inr (5, [.ref aM, .int lM])), (aM, .inl (cI, 300, .inl fM)), (oG, .inr (0, [.ref g1, .ref g2, .int gn, .int lG])), (g1, .inl (cI, 6000, .inl fG1)), (g2, .inl (cI, 20, .inl fG2)), (oW, .inr (1, [.ref oC, .ref oK, .ref nw, .ref w1, .ref w2, .ref w3, .ref o7, .ref o8, .ref o9, .ref w4, .ref w5, .ref w6, .ref w7, .int ke, .int tl, .int fsh, .int wi, .int ri, .int fm, .int lm]))]) rfl
          clear hP hD hS hJ hPD9
          have hP := hPn
          have hD := hDn
          have hS := hSn
          clear hPn hDn hSn
          refine lv_aload_n hx hb dX11_mend_40 rfl (lv_at hl 0 rfl) ?_
          refine va_get (D := (dC, dI)) (ci := 11) (v := .ref oR) (C := RX11) (T := TX11) (N := 12) hx hb hts in_X11 hown hK hP 0 rfl rfl 8 (Nat.le_of_ble_eq_true rfl) (hts (.fieldLink RX11 68 "TextMender" "rowBook" "LTextMender$Rows;") (List.mem_of_getElem? (i := 3) rfl)) (fun _ h9 => h9) rfl dX11_mend_41 ?_
          refine kV_i (rest := []) (q0 := 0) (ci := 9) hcf (f_X9_cheapest l dC dI cI cS H.size oR oH oK n1 n2 n3 r1 r2 r3 r4 r5 r6 lR fR1_5 (g_lR)) kc_X9_cheapest gX11_mend_X9_cheapest rfl rfl rfl ⟨Nat.le_of_ble_eq_true rfl, Nat.le_of_ble_eq_true rfl⟩ kX_t hK hP hD hS hA (posT mk_142 0) (posF mk_142 0) (kC_of mk_142 rfl rfl) (by decide +kernel) rfl rfl rfl hl rfl (Nat.le_of_ble_eq_true rfl) dX11_mend_44 ⟨Nat.le_of_ble_eq_true rfl, Nat.le_of_ble_eq_true rfl⟩ (fun r_6 H locs hB hJ hSn => ?_)
          refine hB _ (fun hPD9 hf6_0 hf6_1 => ?_)
          clear hB
          obtain ⟨hPn, hDn⟩ := kJi (m := mk_142) hJ rfl hPD9.1 hPD9.2 (wn := [(oX, .inr (11, [.ref nT, .ref nL, .ref nM, .ref oC, .ref oP, .ref oH, .ref oK, .ref oG, .ref oR, .ref oQ, .ref oW, .int (-1)])), (oR, .inr (9, [.ref oH, .ref oK, .ref n1, .ref n2, .ref n3, .ref r1, .ref r2, .ref r3, .ref r4, .ref r5, .ref r6, .int lR])), (r1, .inl (cI, 258, .inl fR1_5)), (r2, .inl (cI, 258, .inl fR2_5)), (r3, .inl (cI, 774, .inl fR3_5)), (n1, .inr (5, [.ref a1, .int l1_5])), (a1, .inl (cI, 300, .inl f1_5)), (n2, .inr (5, [.ref a2, .int l2_5])), (a2, .inl (cI, 300, .inl f2_5)), (n3, .inr (5, [.ref a3, .int l3_5])), (a3, .inl (cI, 300, .inl f3_5)), (oH, .inr (4, [.ref oP, .ref h1, .ref h2, .int lH])), (h1, .inl (cI, 6, .inl fH1)), (h2, .inl (cI, 6, .inl fH2)), (oP, .inr (7, [.ref oC, .ref nB, .int ft_5])), (nB, .inr (5, [.ref aB, .int lB_5])), (aB, .inl (cI, 2400, .inl fB_5)), (oC, .inr (2, [.ref o4, .ref o5])), (o4, .inr (10, [.ref a41, .ref a42, .ref a43, .int l4])), (a41, .inl (cI, 256, .inl f41)), (a42, .inl (cI, 512, .inl f42)), (a43, .inl (cI, 512, .inl f43)), (o5, .inr (10, [.ref a51, .ref a52, .ref a53, .int l5])), (a51, .inl (cI, 256, .inl f51)), (a52, .inl (cI, 512, .inl f52)), (a53, .inl (cI, 512, .inl f53)), (oK, .inr (3, [.ref k1, .ref k2, .int lK])), (k1, .inl (cI, 1024, .inl fK1)), (k2, .inl (cI, 1024, .inl fK2)), (nL, .inr (5, [.ref aL, .int lL])), (aL, .inl (cI, 300, .inl fL)), (nM, .inr (5, [.ref aM, .int lM])), (aM, .inl (cI, 300, .inl fM)), (oG, .inr (0, [.ref g1, .ref g2, .int gn, .int lG])), (g1, .inl (cI, 6000, .inl fG1)), (g2, .inl (cI, 20, .inl fG2)), (oW, .inr (1, [.ref oC, .ref oK, .ref nw, .ref w1, .ref w2, .ref w3, .ref o7, .ref o8, .ref o9, .ref w4, .ref w5, .ref w6, .ref w7, .int ke, .int tl, .int fsh, .int wi, .int ri, .int fm, .int lm]))]) rfl
          clear hP hD hS hJ hPD9
          have hP := hPn
          have hD := hDn
          have hS := hSn
          clear hPn hDn hSn
          refine lv_istore_n (lv' := [(3, .int r_6), (0, .ref oX), (1, .int n), (2, .int gn_)]) hx hb dX11_mend_47 rfl hl (by decide) rfl (fun ls hl => ?_)
          refine lv_iload_n hx hb dX11_mend_48 rfl (lv_at hl 0 rfl) ?_
          refine lv_iconst (v := (-1)) hx hb dX11_mend_49 (by decide) ?_
          refine lv_icmp_eq (tgt := 77) hx hb dX11_mend_50 (by decide) (fun c_7 => ?_) (fun c_7 => ?_)
          · have tc_7 : r_6.toInt = (-1) := v_eq c_7
            refine lv_iconst (v := (-1)) hx hb dX11_mend_77 (by decide) ?_
            exact kl_i (v := (-1)) hQQ hx hb hr hlocks hS dX11_mend_78 (fun PZ9 kZ9 => kZ9 (-1) ft_5 lB_5 fB_5 l1_5 f1_5 l2_5 f2_5 l3_5 f3_5 fR1_5 fR2_5 fR3_5 lM fM lL fL fsh gn lG fG1 fG2 (⟨hP, hD⟩) (hf5_0) (hf5_1) (hf5_2) (hf5_3) (g_lM) (g_lL) (g_fsh) (g_gn) (g_lG) (g_fG2) (Or.inr hf5_4) (OC_n rfl (md_none hf6_1 (by omega))))
          · have tc_7 : ¬ r_6.toInt = (-1) := v_ne c_7
            have hmn9 := ch_mn hf6_1 (by omega)
            refine lv_aload_n hx hb dX11_mend_53 rfl (lv_at hl 1 rfl) ?_
            refine va_get (D := (dC, dI)) (ci := 11) (v := .ref oK) (C := RX11) (T := TX11) (N := 12) hx hb hts in_X11 hown hK hP 0 rfl rfl 6 (Nat.le_of_ble_eq_true rfl) (hts (.fieldLink RX11 52 "TextMender" "costs" "LTextMender$Costs;") (List.mem_of_getElem? (i := 5) rfl)) (fun _ h9 => h9) rfl dX11_mend_54 ?_
            refine lv_aload_n hx hb dX11_mend_57 rfl (lv_at hl 1 rfl) ?_
            refine va_get (D := (dC, dI)) (ci := 11) (v := .ref nL) (C := RX11) (T := TX11) (N := 12) hx hb hts in_X11 hown hK hP 0 rfl rfl 1 (Nat.le_of_ble_eq_true rfl) (hts (.fieldLink RX11 34 "TextMender" "letters" "LTextMender$Numbers;") (List.mem_of_getElem? (i := 4) rfl)) (fun _ h9 => h9) rfl dX11_mend_58 ?_
            refine kV_i (rest := []) (q0 := 0) (ci := 3) hcf (f_X3_ofText l dC dI cI cS H.size oK nL k1 k2 aL lK fK1 fK2 lL fL (g_lK) (g_lL) (hT) (ho) (hV) (hlt)) kc_X3_ofText gX11_mend_X3_ofText rfl rfl rfl ⟨Nat.le_of_ble_eq_true rfl, Nat.le_of_ble_eq_true rfl⟩ kX_t hK hP hD hS hA (posT mk_143 0) (posF mk_143 0) (kC_of mk_143 rfl rfl) (by decide +kernel) rfl rfl rfl hl rfl (Nat.le_of_ble_eq_true rfl) dX11_mend_61 ⟨Nat.le_of_ble_eq_true rfl, Nat.le_of_ble_eq_true rfl⟩ (fun r_8 H locs hB hJ hSn => ?_)
            refine hB _ (fun hPD9 hf8_0 hf8_1 => ?_)
            clear hB
            obtain ⟨hPn, hDn⟩ := kJi (m := mk_143) hJ rfl hPD9.1 hPD9.2 (wn := [(oX, .inr (11, [.ref nT, .ref nL, .ref nM, .ref oC, .ref oP, .ref oH, .ref oK, .ref oG, .ref oR, .ref oQ, .ref oW, .int (-1)])), (oR, .inr (9, [.ref oH, .ref oK, .ref n1, .ref n2, .ref n3, .ref r1, .ref r2, .ref r3, .ref r4, .ref r5, .ref r6, .int lR])), (r1, .inl (cI, 258, .inl fR1_5)), (r2, .inl (cI, 258, .inl fR2_5)), (r3, .inl (cI, 774, .inl fR3_5)), (n1, .inr (5, [.ref a1, .int l1_5])), (a1, .inl (cI, 300, .inl f1_5)), (n2, .inr (5, [.ref a2, .int l2_5])), (a2, .inl (cI, 300, .inl f2_5)), (n3, .inr (5, [.ref a3, .int l3_5])), (a3, .inl (cI, 300, .inl f3_5)), (oH, .inr (4, [.ref oP, .ref h1, .ref h2, .int lH])), (h1, .inl (cI, 6, .inl fH1)), (h2, .inl (cI, 6, .inl fH2)), (oP, .inr (7, [.ref oC, .ref nB, .int ft_5])), (nB, .inr (5, [.ref aB, .int lB_5])), (aB, .inl (cI, 2400, .inl fB_5)), (oC, .inr (2, [.ref o4, .ref o5])), (o4, .inr (10, [.ref a41, .ref a42, .ref a43, .int l4])), (a41, .inl (cI, 256, .inl f41)), (a42, .inl (cI, 512, .inl f42)), (a43, .inl (cI, 512, .inl f43)), (o5, .inr (10, [.ref a51, .ref a52, .ref a53, .int l5])), (a51, .inl (cI, 256, .inl f51)), (a52, .inl (cI, 512, .inl f52)), (a53, .inl (cI, 512, .inl f53)), (oK, .inr (3, [.ref k1, .ref k2, .int lK])), (k1, .inl (cI, 1024, .inl fK1)), (k2, .inl (cI, 1024, .inl fK2)), (nL, .inr (5, [.ref aL, .int lL])), (aL, .inl (cI, 300, .inl fL)), (nM, .inr (5, [.ref aM, .int lM])), (aM, .inl (cI, 300, .inl fM)), (oG, .inr (0, [.ref g1, .ref g2, .int gn, .int lG])), (g1, .inl (cI, 6000, .inl fG1)), (g2, .inl (cI, 20, .inl fG2)), (oW, .inr (1, [.ref oC, .ref oK, .ref nw, .ref w1, .ref w2, .ref w3, .ref o7, .ref o8, .ref o9, .ref w4, .ref w5, .ref w6, .ref w7, .int ke, .int tl, .int fsh, .int wi, .int ri, .int fm, .int lm]))]) rfl
            clear hP hD hS hJ hPD9
            have hP := hPn
            have hD := hDn
            have hS := hSn
            clear hPn hDn hSn
            have hct9 : r_8.toInt = cT (tcC fK1 fK2) ((lL.toInt.toNat : Nat) : Int) fL := by rw [show ((lL.toInt.toNat : Nat) : Int) = lL.toInt by omega]; exact hf8_1
            refine lv_aload_n hx hb dX11_mend_64 rfl (lv_at hl 1 rfl) ?_
            refine va_get (D := (dC, dI)) (ci := 11) (v := .ref oR) (C := RX11) (T := TX11) (N := 12) hx hb hts in_X11 hown hK hP 0 rfl rfl 8 (Nat.le_of_ble_eq_true rfl) (hts (.fieldLink RX11 68 "TextMender" "rowBook" "LTextMender$Rows;") (List.mem_of_getElem? (i := 3) rfl)) (fun _ h9 => h9) rfl dX11_mend_65 ?_
            refine lv_iload_n hx hb dX11_mend_68 rfl (lv_at hl 0 rfl) ?_
            refine kV_i (rest := [.int r_8]) (q0 := 0) (ci := 9) hcf (f_X9_costAt l dC dI cI cS H.size oR oH oK n1 n2 n3 r1 r2 r3 r4 r5 r6 lR fR1_5 r_6 (g_lR) (by omega)) kc_X9_costAt gX11_mend_X9_costAt rfl rfl rfl ⟨Nat.le_of_ble_eq_true rfl, Nat.le_of_ble_eq_true rfl⟩ kX_t hK hP hD hS hA (posT mk_142 0) (posF mk_142 0) (kC_of mk_142 rfl rfl) (by decide +kernel) rfl rfl rfl hl rfl (Nat.le_of_ble_eq_true rfl) dX11_mend_69 ⟨Nat.le_of_ble_eq_true rfl, Nat.le_of_ble_eq_true rfl⟩ (fun r_9 H locs hB hJ hSn => ?_)
            refine hB _ (fun hPD9 hf9_0 => ?_)
            clear hB
            obtain ⟨hPn, hDn⟩ := kJi (m := mk_142) hJ rfl hPD9.1 hPD9.2 (wn := [(oX, .inr (11, [.ref nT, .ref nL, .ref nM, .ref oC, .ref oP, .ref oH, .ref oK, .ref oG, .ref oR, .ref oQ, .ref oW, .int (-1)])), (oR, .inr (9, [.ref oH, .ref oK, .ref n1, .ref n2, .ref n3, .ref r1, .ref r2, .ref r3, .ref r4, .ref r5, .ref r6, .int lR])), (r1, .inl (cI, 258, .inl fR1_5)), (r2, .inl (cI, 258, .inl fR2_5)), (r3, .inl (cI, 774, .inl fR3_5)), (n1, .inr (5, [.ref a1, .int l1_5])), (a1, .inl (cI, 300, .inl f1_5)), (n2, .inr (5, [.ref a2, .int l2_5])), (a2, .inl (cI, 300, .inl f2_5)), (n3, .inr (5, [.ref a3, .int l3_5])), (a3, .inl (cI, 300, .inl f3_5)), (oH, .inr (4, [.ref oP, .ref h1, .ref h2, .int lH])), (h1, .inl (cI, 6, .inl fH1)), (h2, .inl (cI, 6, .inl fH2)), (oP, .inr (7, [.ref oC, .ref nB, .int ft_5])), (nB, .inr (5, [.ref aB, .int lB_5])), (aB, .inl (cI, 2400, .inl fB_5)), (oC, .inr (2, [.ref o4, .ref o5])), (o4, .inr (10, [.ref a41, .ref a42, .ref a43, .int l4])), (a41, .inl (cI, 256, .inl f41)), (a42, .inl (cI, 512, .inl f42)), (a43, .inl (cI, 512, .inl f43)), (o5, .inr (10, [.ref a51, .ref a52, .ref a53, .int l5])), (a51, .inl (cI, 256, .inl f51)), (a52, .inl (cI, 512, .inl f52)), (a53, .inl (cI, 512, .inl f53)), (oK, .inr (3, [.ref k1, .ref k2, .int lK])), (k1, .inl (cI, 1024, .inl fK1)), (k2, .inl (cI, 1024, .inl fK2)), (nL, .inr (5, [.ref aL, .int lL])), (aL, .inl (cI, 300, .inl fL)), (nM, .inr (5, [.ref aM, .int lM])), (aM, .inl (cI, 300, .inl fM)), (oG, .inr (0, [.ref g1, .ref g2, .int gn, .int lG])), (g1, .inl (cI, 6000, .inl fG1)), (g2, .inl (cI, 20, .inl fG2)), (oW, .inr (1, [.ref oC, .ref oK, .ref nw, .ref w1, .ref w2, .ref w3, .ref o7, .ref o8, .ref o9, .ref w4, .ref w5, .ref w6, .ref w7, .int ke, .int tl, .int fsh, .int wi, .int ri, .int fm, .int lm]))]) rfl
            clear hP hD hS hJ hPD9
            have hP := hPn
            have hD := hDn
            have hS := hSn
            clear hPn hDn hSn
            have hcc9 : r_9.toInt = (fR1_5 r_6.toNatClampNeg).toInt := v_eq hf9_0
            have hcp9 : 0 ≤ r_9.toInt := by rw [hcc9]; exact ge_pos hf5_4 hmn9.1 hmn9.2.1
            refine lv_isub hx hb dX11_mend_72 ?_
            refine lv_topi (fun x_10 ex_10 => ?_)
            have rv10_1 := v_rng r_9
            have tx_10 : x_10.toInt = r_8.toInt - r_9.toInt := v_sub ex_10 (by show -2147483648 ≤ r_8.toInt - r_9.toInt; omega) (by show r_8.toInt - r_9.toInt < 2147483648; omega)
            refine lv_iload_n hx hb dX11_mend_73 rfl (lv_at hl 3 rfl) ?_
            refine lv_icmp_ge (tgt := 79) hx hb dX11_mend_74 (by decide) (fun c_11 => ?_) (fun c_11 => ?_)
            · have tc_11 : gn_.toInt ≤ x_10.toInt := v_le c_11
              refine lv_aload_n hx hb dX11_mend_79 rfl (lv_at hl 1 rfl) ?_
              refine va_get (D := (dC, dI)) (ci := 11) (v := .ref oR) (C := RX11) (T := TX11) (N := 12) hx hb hts in_X11 hown hK hP 0 rfl rfl 8 (Nat.le_of_ble_eq_true rfl) (hts (.fieldLink RX11 68 "TextMender" "rowBook" "LTextMender$Rows;") (List.mem_of_getElem? (i := 3) rfl)) (fun _ h9 => h9) rfl dX11_mend_80 ?_
              refine lv_iload_n hx hb dX11_mend_83 rfl (lv_at hl 0 rfl) ?_
              refine lv_aload_n hx hb dX11_mend_84 rfl (lv_at hl 1 rfl) ?_
              refine va_get (D := (dC, dI)) (ci := 11) (v := .ref nL) (C := RX11) (T := TX11) (N := 12) hx hb hts in_X11 hown hK hP 0 rfl rfl 1 (Nat.le_of_ble_eq_true rfl) (hts (.fieldLink RX11 34 "TextMender" "letters" "LTextMender$Numbers;") (List.mem_of_getElem? (i := 4) rfl)) (fun _ h9 => h9) rfl dX11_mend_85 ?_
              refine lv_aload_n hx hb dX11_mend_88 rfl (lv_at hl 1 rfl) ?_
              refine va_get (D := (dC, dI)) (ci := 11) (v := .ref nM) (C := RX11) (T := TX11) (N := 12) hx hb hts in_X11 hown hK hP 0 rfl rfl 2 (Nat.le_of_ble_eq_true rfl) (hts (.fieldLink RX11 37 "TextMender" "made" "LTextMender$Numbers;") (List.mem_of_getElem? (i := 6) rfl)) (fun _ h9 => h9) rfl dX11_mend_89 ?_
              refine kV_i (rest := []) (q0 := 0) (ci := 9) hcf (f_X9_build l dC dI cI cS H.size oR nL nM oH oK n1 n2 n3 r1 r2 r3 r4 r5 r6 a1 a2 oP h1 h2 oC nB aB o4 o5 a41 a42 a43 a51 a52 a53 aL aM lR fR3_5 l1_5 f1_5 l2_5 f2_5 lH fH1 fH2 ft_5 lB_5 fB_5 l4 f41 f42 f43 l5 f51 f52 f53 lL fL lM fM r_6 (g_lR) (hf5_1) (hf5_2) (g_lH) (hf5_0) (g_lL) (g_lM) (by omega) (fun j hj => (ge_nm hf5_4 hmn9.1 hmn9.2.1 j hj).imp id (fun w9 => ⟨w9.1, by have c9 := v_clamp (x := lH) (by omega); have w8 := w9.2; omega⟩)) (hlt) (hT4) (ho4) (hT5) (ho5) (hL4) (hL5) (hBr)) kc_X9_build gX11_mend_X9_build rfl rfl rfl ⟨Nat.le_of_ble_eq_true rfl, Nat.le_of_ble_eq_true rfl⟩ (kX_1 hN52) hK hP hD hS hA (posT mk_144 0) (posF mk_144 0) (kC_of mk_144 rfl rfl) (by decide +kernel) rfl rfl rfl hl rfl (Nat.le_of_ble_eq_true rfl) dX11_mend_92 ⟨Nat.le_of_ble_eq_true rfl, Nat.le_of_ble_eq_true rfl⟩ (fun r_12 H locs hB hJ hSn => ?_)
              refine hB _ (fun ft_12 lB_12 fB_12 l1_12 f1_12 l2_12 f2_12 ld_12 fd_12 hPD9 hf12_0 hf12_1 hf12_2 hf12_3 hf12_4 hf12_5 => ?_)
              clear hB
              obtain ⟨hPn, hDn⟩ := kJi (m := mk_144) hJ rfl hPD9.1 hPD9.2 (wn := [(oX, .inr (11, [.ref nT, .ref nL, .ref nM, .ref oC, .ref oP, .ref oH, .ref oK, .ref oG, .ref oR, .ref oQ, .ref oW, .int (-1)])), (oR, .inr (9, [.ref oH, .ref oK, .ref n1, .ref n2, .ref n3, .ref r1, .ref r2, .ref r3, .ref r4, .ref r5, .ref r6, .int lR])), (r1, .inl (cI, 258, .inl fR1_5)), (r2, .inl (cI, 258, .inl fR2_5)), (r3, .inl (cI, 774, .inl fR3_5)), (n1, .inr (5, [.ref a1, .int l1_12])), (a1, .inl (cI, 300, .inl f1_12)), (n2, .inr (5, [.ref a2, .int l2_12])), (a2, .inl (cI, 300, .inl f2_12)), (n3, .inr (5, [.ref a3, .int l3_5])), (a3, .inl (cI, 300, .inl f3_5)), (oH, .inr (4, [.ref oP, .ref h1, .ref h2, .int lH])), (h1, .inl (cI, 6, .inl fH1)), (h2, .inl (cI, 6, .inl fH2)), (oP, .inr (7, [.ref oC, .ref nB, .int ft_12])), (nB, .inr (5, [.ref aB, .int lB_12])), (aB, .inl (cI, 2400, .inl fB_12)), (oC, .inr (2, [.ref o4, .ref o5])), (o4, .inr (10, [.ref a41, .ref a42, .ref a43, .int l4])), (a41, .inl (cI, 256, .inl f41)), (a42, .inl (cI, 512, .inl f42)), (a43, .inl (cI, 512, .inl f43)), (o5, .inr (10, [.ref a51, .ref a52, .ref a53, .int l5])), (a51, .inl (cI, 256, .inl f51)), (a52, .inl (cI, 512, .inl f52)), (a53, .inl (cI, 512, .inl f53)), (oK, .inr (3, [.ref k1, .ref k2, .int lK])), (k1, .inl (cI, 1024, .inl fK1)), (k2, .inl (cI, 1024, .inl fK2)), (nL, .inr (5, [.ref aL, .int lL])), (aL, .inl (cI, 300, .inl fL)), (nM, .inr (5, [.ref aM, .int ld_12])), (aM, .inl (cI, 300, .inl fd_12)), (oG, .inr (0, [.ref g1, .ref g2, .int gn, .int lG])), (g1, .inl (cI, 6000, .inl fG1)), (g2, .inl (cI, 20, .inl fG2)), (oW, .inr (1, [.ref oC, .ref oK, .ref nw, .ref w1, .ref w2, .ref w3, .ref o7, .ref o8, .ref o9, .ref w4, .ref w5, .ref w6, .ref w7, .int ke, .int tl, .int fsh, .int wi, .int ri, .int fm, .int lm]))]) rfl
              clear hP hD hS hJ hPD9
              have hP := hPn
              have hD := hDn
              have hS := hSn
              clear hPn hDn hSn
              refine lv_if_ne (tgt := 100) hx hb dX11_mend_95 (by decide) (fun c_13 => ?_) (fun c_13 => ?_)
              · have tc_13 : ¬ r_12.toInt = 0 := v_ne c_13
                refine lv_aload_n hx hb dX11_mend_100 rfl (lv_at hl 1 rfl) ?_
                refine lv_aload_n hx hb dX11_mend_101 rfl (lv_at hl 1 rfl) ?_
                refine va_get (D := (dC, dI)) (ci := 11) (v := .ref nM) (C := RX11) (T := TX11) (N := 12) hx hb hts in_X11 hown hK hP 0 rfl rfl 2 (Nat.le_of_ble_eq_true rfl) (hts (.fieldLink RX11 37 "TextMender" "made" "LTextMender$Numbers;") (List.mem_of_getElem? (i := 6) rfl)) (fun _ h9 => h9) rfl dX11_mend_102 ?_
                refine kV_i (rest := []) (q0 := 0) (ci := 11) hcf (f_X11_bec l dC dI cI cS H.size oX nM nT nL oC oP oH oK oG oR oQ oW aL aM g1 g2 nw w1 w2 w3 o7 o8 o9 w4 w5 w6 w7 (-1) lL fL ld_12 fd_12 gn lG fG1 fG2 ke tl fsh wi ri fm lm (g_lL) (hf12_3) (g_gn) (g_lG) (g_fG2) (g_ke) (g_fsh) (g_fm) (g_lm)) kc_X11_become gX11_mend_X11_become rfl rfl rfl ⟨Nat.le_of_ble_eq_true rfl, Nat.le_of_ble_eq_true rfl⟩ kX_t hK hP hD hS hA (posT mk_145 0) (posF mk_145 0) (kC_of mk_145 rfl rfl) (by decide +kernel) rfl rfl rfl hl rfl (Nat.le_of_ble_eq_true rfl) dX11_mend_105 ⟨Nat.le_of_ble_eq_true rfl, Nat.le_of_ble_eq_true rfl⟩ (fun r_14 H locs hB hJ hSn => ?_)
                refine hB _ (fun lL_14 fL_14 fsh_14 gn_14 lG_14 fG1_14 fG2_14 hPD9 hf14_0 hf14_1 hf14_2 hf14_3 hf14_4 hf14_5 hf14_6 hf14_7 => ?_)
                clear hB
                obtain ⟨hPn, hDn⟩ := kJi (m := mk_145) hJ rfl hPD9.1 hPD9.2 (wn := [(oX, .inr (11, [.ref nT, .ref nL, .ref nM, .ref oC, .ref oP, .ref oH, .ref oK, .ref oG, .ref oR, .ref oQ, .ref oW, .int (-1)])), (oR, .inr (9, [.ref oH, .ref oK, .ref n1, .ref n2, .ref n3, .ref r1, .ref r2, .ref r3, .ref r4, .ref r5, .ref r6, .int lR])), (r1, .inl (cI, 258, .inl fR1_5)), (r2, .inl (cI, 258, .inl fR2_5)), (r3, .inl (cI, 774, .inl fR3_5)), (n1, .inr (5, [.ref a1, .int l1_12])), (a1, .inl (cI, 300, .inl f1_12)), (n2, .inr (5, [.ref a2, .int l2_12])), (a2, .inl (cI, 300, .inl f2_12)), (n3, .inr (5, [.ref a3, .int l3_5])), (a3, .inl (cI, 300, .inl f3_5)), (oH, .inr (4, [.ref oP, .ref h1, .ref h2, .int lH])), (h1, .inl (cI, 6, .inl fH1)), (h2, .inl (cI, 6, .inl fH2)), (oP, .inr (7, [.ref oC, .ref nB, .int ft_12])), (nB, .inr (5, [.ref aB, .int lB_12])), (aB, .inl (cI, 2400, .inl fB_12)), (oC, .inr (2, [.ref o4, .ref o5])), (o4, .inr (10, [.ref a41, .ref a42, .ref a43, .int l4])), (a41, .inl (cI, 256, .inl f41)), (a42, .inl (cI, 512, .inl f42)), (a43, .inl (cI, 512, .inl f43)), (o5, .inr (10, [.ref a51, .ref a52, .ref a53, .int l5])), (a51, .inl (cI, 256, .inl f51)), (a52, .inl (cI, 512, .inl f52)), (a53, .inl (cI, 512, .inl f53)), (oK, .inr (3, [.ref k1, .ref k2, .int lK])), (k1, .inl (cI, 1024, .inl fK1)), (k2, .inl (cI, 1024, .inl fK2)), (nL, .inr (5, [.ref aL, .int lL_14])), (aL, .inl (cI, 300, .inl fL_14)), (nM, .inr (5, [.ref aM, .int ld_12])), (aM, .inl (cI, 300, .inl fd_12)), (oG, .inr (0, [.ref g1, .ref g2, .int gn_14, .int lG_14])), (g1, .inl (cI, 6000, .inl fG1_14)), (g2, .inl (cI, 20, .inl fG2_14)), (oW, .inr (1, [.ref oC, .ref oK, .ref nw, .ref w1, .ref w2, .ref w3, .ref o7, .ref o8, .ref o9, .ref w4, .ref w5, .ref w6, .ref w7, .int ke, .int tl, .int fsh_14, .int wi, .int ri, .int fm, .int lm]))]) rfl
                clear hP hD hS hJ hPD9
                have hP := hPn
                have hD := hDn
                have hS := hSn
                clear hPn hDn hSn
                refine lv_pop hx hb dX11_mend_108 rfl ?_
                refine lv_aload_n hx hb dX11_mend_109 rfl (lv_at hl 1 rfl) ?_
                refine va_get (D := (dC, dI)) (ci := 11) (v := .ref oR) (C := RX11) (T := TX11) (N := 12) hx hb hts in_X11 hown hK hP 0 rfl rfl 8 (Nat.le_of_ble_eq_true rfl) (hts (.fieldLink RX11 68 "TextMender" "rowBook" "LTextMender$Rows;") (List.mem_of_getElem? (i := 3) rfl)) (fun _ h9 => h9) rfl dX11_mend_110 ?_
                refine lv_iload_n hx hb dX11_mend_113 rfl (lv_at hl 0 rfl) ?_
                refine kV_i (rest := []) (q0 := 0) (ci := 9) hcf (f_X9_numberOf l dC dI cI cS H.size oR oH oK n1 n2 n3 r1 r2 r3 r4 r5 r6 lR fR1_5 r_6 (g_lR) (by omega)) kc_X9_numberOf gX11_mend_X9_numberOf rfl rfl rfl ⟨Nat.le_of_ble_eq_true rfl, Nat.le_of_ble_eq_true rfl⟩ kX_t hK hP hD hS hA (posT mk_142 0) (posF mk_142 0) (kC_of mk_142 rfl rfl) (by decide +kernel) rfl rfl rfl hl rfl (Nat.le_of_ble_eq_true rfl) dX11_mend_114 ⟨Nat.le_of_ble_eq_true rfl, Nat.le_of_ble_eq_true rfl⟩ (fun r_15 H locs hB hJ hSn => ?_)
                refine hB _ (fun hPD9 hf15_0 => ?_)
                clear hB
                obtain ⟨hPn, hDn⟩ := kJi (m := mk_142) hJ rfl hPD9.1 hPD9.2 (wn := [(oX, .inr (11, [.ref nT, .ref nL, .ref nM, .ref oC, .ref oP, .ref oH, .ref oK, .ref oG, .ref oR, .ref oQ, .ref oW, .int (-1)])), (oR, .inr (9, [.ref oH, .ref oK, .ref n1, .ref n2, .ref n3, .ref r1, .ref r2, .ref r3, .ref r4, .ref r5, .ref r6, .int lR])), (r1, .inl (cI, 258, .inl fR1_5)), (r2, .inl (cI, 258, .inl fR2_5)), (r3, .inl (cI, 774, .inl fR3_5)), (n1, .inr (5, [.ref a1, .int l1_12])), (a1, .inl (cI, 300, .inl f1_12)), (n2, .inr (5, [.ref a2, .int l2_12])), (a2, .inl (cI, 300, .inl f2_12)), (n3, .inr (5, [.ref a3, .int l3_5])), (a3, .inl (cI, 300, .inl f3_5)), (oH, .inr (4, [.ref oP, .ref h1, .ref h2, .int lH])), (h1, .inl (cI, 6, .inl fH1)), (h2, .inl (cI, 6, .inl fH2)), (oP, .inr (7, [.ref oC, .ref nB, .int ft_12])), (nB, .inr (5, [.ref aB, .int lB_12])), (aB, .inl (cI, 2400, .inl fB_12)), (oC, .inr (2, [.ref o4, .ref o5])), (o4, .inr (10, [.ref a41, .ref a42, .ref a43, .int l4])), (a41, .inl (cI, 256, .inl f41)), (a42, .inl (cI, 512, .inl f42)), (a43, .inl (cI, 512, .inl f43)), (o5, .inr (10, [.ref a51, .ref a52, .ref a53, .int l5])), (a51, .inl (cI, 256, .inl f51)), (a52, .inl (cI, 512, .inl f52)), (a53, .inl (cI, 512, .inl f53)), (oK, .inr (3, [.ref k1, .ref k2, .int lK])), (k1, .inl (cI, 1024, .inl fK1)), (k2, .inl (cI, 1024, .inl fK2)), (nL, .inr (5, [.ref aL, .int lL_14])), (aL, .inl (cI, 300, .inl fL_14)), (nM, .inr (5, [.ref aM, .int ld_12])), (aM, .inl (cI, 300, .inl fd_12)), (oG, .inr (0, [.ref g1, .ref g2, .int gn_14, .int lG_14])), (g1, .inl (cI, 6000, .inl fG1_14)), (g2, .inl (cI, 20, .inl fG2_14)), (oW, .inr (1, [.ref oC, .ref oK, .ref nw, .ref w1, .ref w2, .ref w3, .ref o7, .ref o8, .ref o9, .ref w4, .ref w5, .ref w6, .ref w7, .int ke, .int tl, .int fsh_14, .int wi, .int ri, .int fm, .int lm]))]) rfl
                clear hP hD hS hJ hPD9
                have hP := hPn
                have hD := hDn
                have hS := hSn
                clear hPn hDn hSn
                exact kl_i (v := r_15) hQQ hx hb hr hlocks hS dX11_mend_117 (fun PZ9 kZ9 => kZ9 (-1) ft_12 lB_12 fB_12 l1_12 f1_12 l2_12 f2_12 l3_5 f3_5 fR1_5 fR2_5 fR3_5 ld_12 fd_12 lL_14 fL_14 fsh_14 gn_14 lG_14 fG1_14 fG2_14 (⟨hP, hD⟩) (hf12_0) (hf12_1) (hf12_2) (hf5_3) (hf12_3) (hf14_0) (hf14_1) (hf14_2) (hf14_3) (hf14_4) (Or.inr hf5_4) (OC_y ((md_bld hU hf5_4 rfl (by omega) hf9 hmn9 hf12_5).2 (by omega) (by rw [← hcc9, ← hct9]; omega) hf15_0) hf14_6 hf14_7))
              · have tc_13 : r_12.toInt = 0 := v_eq c_13
                refine lv_iconst (v := (-1)) hx hb dX11_mend_98 (by decide) ?_
                exact kl_i (v := (-1)) hQQ hx hb hr hlocks hS dX11_mend_99 (fun PZ9 kZ9 => kZ9 (-1) ft_12 lB_12 fB_12 l1_12 f1_12 l2_12 f2_12 l3_5 f3_5 fR1_5 fR2_5 fR3_5 ld_12 fd_12 lL fL fsh gn lG fG1 fG2 (⟨hP, hD⟩) (hf12_0) (hf12_1) (hf12_2) (hf5_3) (hf12_3) (g_lL) (g_fsh) (g_gn) (g_lG) (g_fG2) (Or.inr hf5_4) (absurd (by omega) (md_bld (v := 0) (gain := 0) hU hf5_4 rfl (by omega) hf9 hmn9 hf12_5).1))
            · have tc_11 : x_10.toInt < gn_.toInt := v_nle c_11
              refine lv_iconst (v := (-1)) hx hb dX11_mend_77 (by decide) ?_
              exact kl_i (v := (-1)) hQQ hx hb hr hlocks hS dX11_mend_78 (fun PZ9 kZ9 => kZ9 (-1) ft_5 lB_5 fB_5 l1_5 f1_5 l2_5 f2_5 l3_5 f3_5 fR1_5 fR2_5 fR3_5 lM fM lL fL fsh gn lG fG1 fG2 (⟨hP, hD⟩) (hf5_0) (hf5_1) (hf5_2) (hf5_3) (g_lM) (g_lL) (g_fsh) (g_gn) (g_lG) (g_fG2) (Or.inr hf5_4) (OC_n rfl (md_less hmn9 (by rw [← hcc9, ← hct9]; omega))))
        · have tc_4 : 100000 < gn_.toInt := v_nle c_4
          refine lv_iconst (v := (-1)) hx hb dX11_mend_26 (by decide) ?_
          exact kl_i (v := (-1)) hQQ hx hb hr hlocks hS dX11_mend_27 (fun PZ9 kZ9 => kZ9 (-1) ft lB fB l1 f1 l2 f2 l3 f3 fR1 fR2 fR3 lM fM lL fL fsh gn lG fG1 fG2 (⟨hP, hD⟩) (g_lB) (g_l1) (g_l2) (g_l3) (g_lM) (g_lL) (g_fsh) (g_gn) (g_lG) (g_fG2) (Or.inl (by omega)) (OC_n rfl (fun c fm v h => absurd h.1 (by omega))))

end

/-! 59u.a.rows -/
section
set_option maxRecDepth 100000 in
theorem dA269_cX12_power : kDec cX12_power [(0, .iconst 1, 1), (1, .istore_n 2, 1), (2, .iconst 0, 1), (3, .istore_n 3, 1), (4, .iload_n 3, 1), (5, .iload_n 1, 1), (6, .if_icmp .ge 13, 3), (19, .iload_n 2, 1), (20, .ireturn, 1), (9, .iload_n 2, 1), (10, .iload_n 0, 1), (11, .imul, 1), (12, .istore_n 2, 1), (13, .iinc 3 1, 3), (16, .goto (-12), 3)] = true := by decide +kernel
theorem dX12_power_0 : decode cX12_power 0 = .ok (.iconst 1, 1) := kDec_at dA269_cX12_power 0 rfl
theorem dX12_power_1 : decode cX12_power 1 = .ok (.istore_n 2, 1) := kDec_at dA269_cX12_power 1 rfl
theorem dX12_power_2 : decode cX12_power 2 = .ok (.iconst 0, 1) := kDec_at dA269_cX12_power 2 rfl
theorem dX12_power_3 : decode cX12_power 3 = .ok (.istore_n 3, 1) := kDec_at dA269_cX12_power 3 rfl
theorem dX12_power_4 : decode cX12_power 4 = .ok (.iload_n 3, 1) := kDec_at dA269_cX12_power 4 rfl
theorem dX12_power_5 : decode cX12_power 5 = .ok (.iload_n 1, 1) := kDec_at dA269_cX12_power 5 rfl
theorem dX12_power_6 : decode cX12_power 6 = .ok (.if_icmp .ge 13, 3) := kDec_at dA269_cX12_power 6 rfl
theorem dX12_power_19 : decode cX12_power 19 = .ok (.iload_n 2, 1) := kDec_at dA269_cX12_power 7 rfl
theorem dX12_power_20 : decode cX12_power 20 = .ok (.ireturn, 1) := kDec_at dA269_cX12_power 8 rfl
theorem dX12_power_9 : decode cX12_power 9 = .ok (.iload_n 2, 1) := kDec_at dA269_cX12_power 9 rfl
theorem dX12_power_10 : decode cX12_power 10 = .ok (.iload_n 0, 1) := kDec_at dA269_cX12_power 10 rfl
theorem dX12_power_11 : decode cX12_power 11 = .ok (.imul, 1) := kDec_at dA269_cX12_power 11 rfl
theorem dX12_power_12 : decode cX12_power 12 = .ok (.istore_n 2, 1) := kDec_at dA269_cX12_power 12 rfl
theorem dX12_power_13 : decode cX12_power 13 = .ok (.iinc 3 1, 3) := kDec_at dA269_cX12_power 13 rfl
theorem dX12_power_16 : decode cX12_power 16 = .ok (.goto (-12), 3) := kDec_at dA269_cX12_power 14 rfl
set_option maxRecDepth 100000 in
theorem dA270_cX12_makes : kDec cX12_makes [(0, .aload_n 0, 1), (1, .invokevirtual 171, 3), (4, .iload_n 1, 1), (5, .istore_n 3, 1), (6, .iconst 0, 1), (7, .istore 4, 2), (9, .iload 4, 2), (11, .iload_n 2, 1), (12, .if_icmp .ge 47, 3), (59, .iconst 1, 1), (60, .ireturn, 1), (15, .iload_n 3, 1), (16, .aload_n 0, 1), (17, .getfield 161, 3), (20, .irem, 1), (21, .istore 5, 2), (23, .iload_n 3, 1), (24, .aload_n 0, 1), (25, .getfield 161, 3), (28, .idiv, 1), (29, .istore_n 3, 1), (30, .aload_n 0, 1), (31, .aload_n 0, 1), (32, .getfield 30, 3)] = true := by decide +kernel
theorem dX12_makes_0 : decode cX12_makes 0 = .ok (.aload_n 0, 1) := kDec_at dA270_cX12_makes 0 rfl
theorem dX12_makes_1 : decode cX12_makes 1 = .ok (.invokevirtual 171, 3) := kDec_at dA270_cX12_makes 1 rfl
theorem dX12_makes_4 : decode cX12_makes 4 = .ok (.iload_n 1, 1) := kDec_at dA270_cX12_makes 2 rfl
theorem dX12_makes_5 : decode cX12_makes 5 = .ok (.istore_n 3, 1) := kDec_at dA270_cX12_makes 3 rfl
theorem dX12_makes_6 : decode cX12_makes 6 = .ok (.iconst 0, 1) := kDec_at dA270_cX12_makes 4 rfl
theorem dX12_makes_7 : decode cX12_makes 7 = .ok (.istore 4, 2) := kDec_at dA270_cX12_makes 5 rfl
theorem dX12_makes_9 : decode cX12_makes 9 = .ok (.iload 4, 2) := kDec_at dA270_cX12_makes 6 rfl
theorem dX12_makes_11 : decode cX12_makes 11 = .ok (.iload_n 2, 1) := kDec_at dA270_cX12_makes 7 rfl
theorem dX12_makes_12 : decode cX12_makes 12 = .ok (.if_icmp .ge 47, 3) := kDec_at dA270_cX12_makes 8 rfl
theorem dX12_makes_59 : decode cX12_makes 59 = .ok (.iconst 1, 1) := kDec_at dA270_cX12_makes 9 rfl
theorem dX12_makes_60 : decode cX12_makes 60 = .ok (.ireturn, 1) := kDec_at dA270_cX12_makes 10 rfl
theorem dX12_makes_15 : decode cX12_makes 15 = .ok (.iload_n 3, 1) := kDec_at dA270_cX12_makes 11 rfl
theorem dX12_makes_16 : decode cX12_makes 16 = .ok (.aload_n 0, 1) := kDec_at dA270_cX12_makes 12 rfl
theorem dX12_makes_17 : decode cX12_makes 17 = .ok (.getfield 161, 3) := kDec_at dA270_cX12_makes 13 rfl
theorem dX12_makes_20 : decode cX12_makes 20 = .ok (.irem, 1) := kDec_at dA270_cX12_makes 14 rfl
theorem dX12_makes_21 : decode cX12_makes 21 = .ok (.istore 5, 2) := kDec_at dA270_cX12_makes 15 rfl
theorem dX12_makes_23 : decode cX12_makes 23 = .ok (.iload_n 3, 1) := kDec_at dA270_cX12_makes 16 rfl
theorem dX12_makes_24 : decode cX12_makes 24 = .ok (.aload_n 0, 1) := kDec_at dA270_cX12_makes 17 rfl
theorem dX12_makes_25 : decode cX12_makes 25 = .ok (.getfield 161, 3) := kDec_at dA270_cX12_makes 18 rfl
theorem dX12_makes_28 : decode cX12_makes 28 = .ok (.idiv, 1) := kDec_at dA270_cX12_makes 19 rfl
theorem dX12_makes_29 : decode cX12_makes 29 = .ok (.istore_n 3, 1) := kDec_at dA270_cX12_makes 20 rfl
theorem dX12_makes_30 : decode cX12_makes 30 = .ok (.aload_n 0, 1) := kDec_at dA270_cX12_makes 21 rfl
theorem dX12_makes_31 : decode cX12_makes 31 = .ok (.aload_n 0, 1) := kDec_at dA270_cX12_makes 22 rfl
theorem dX12_makes_32 : decode cX12_makes 32 = .ok (.getfield 30, 3) := kDec_at dA270_cX12_makes 23 rfl
set_option maxRecDepth 20000 in
theorem ggX12_makes_X12_takeText : GoodIn wsX12_makes wsX12_takeText := goodIn_sub (fun _ h => List.mem_cons_of_mem _ (List.mem_append_left _ (List.mem_append_right _ (h)))) gX12_takeText_all
set_option maxRecDepth 20000 in
theorem gX12_makes_X12_takeText : GoodIn wsX12_makes (wsV RX12 171 RX12 yX12_takeText wsX12_takeText) := goodIn_app (goodIn_r _ [4, 5, 6, 7] rfl (by decide +kernel)) ggX12_makes_X12_takeText
set_option maxRecDepth 100000 in
theorem dA271_cX12_makes : kDec cX12_makes [(35, .iload 5, 2), (37, .iaload, 1), (38, .aload_n 0, 1), (39, .getfield 33, 3), (42, .iload 5, 2), (44, .iaload, 1), (45, .invokevirtual 174, 3), (48, .ifCond .ne 5, 3), (53, .iinc 4 1, 3), (56, .goto (-47), 3), (51, .iconst 0, 1), (52, .ireturn, 1)] = true := by decide +kernel
theorem dX12_makes_35 : decode cX12_makes 35 = .ok (.iload 5, 2) := kDec_at dA271_cX12_makes 0 rfl
theorem dX12_makes_37 : decode cX12_makes 37 = .ok (.iaload, 1) := kDec_at dA271_cX12_makes 1 rfl
theorem dX12_makes_38 : decode cX12_makes 38 = .ok (.aload_n 0, 1) := kDec_at dA271_cX12_makes 2 rfl
theorem dX12_makes_39 : decode cX12_makes 39 = .ok (.getfield 33, 3) := kDec_at dA271_cX12_makes 3 rfl
theorem dX12_makes_42 : decode cX12_makes 42 = .ok (.iload 5, 2) := kDec_at dA271_cX12_makes 4 rfl
theorem dX12_makes_44 : decode cX12_makes 44 = .ok (.iaload, 1) := kDec_at dA271_cX12_makes 5 rfl
theorem dX12_makes_45 : decode cX12_makes 45 = .ok (.invokevirtual 174, 3) := kDec_at dA271_cX12_makes 6 rfl
theorem dX12_makes_48 : decode cX12_makes 48 = .ok (.ifCond .ne 5, 3) := kDec_at dA271_cX12_makes 7 rfl
theorem dX12_makes_53 : decode cX12_makes 53 = .ok (.iinc 4 1, 3) := kDec_at dA271_cX12_makes 8 rfl
theorem dX12_makes_56 : decode cX12_makes 56 = .ok (.goto (-47), 3) := kDec_at dA271_cX12_makes 9 rfl
theorem dX12_makes_51 : decode cX12_makes 51 = .ok (.iconst 0, 1) := kDec_at dA271_cX12_makes 10 rfl
theorem dX12_makes_52 : decode cX12_makes 52 = .ok (.ireturn, 1) := kDec_at dA271_cX12_makes 11 rfl
set_option maxRecDepth 20000 in
theorem ggX12_makes_X12_undoes : GoodIn wsX12_makes wsX12_undoes := goodIn_sub (fun _ h => List.mem_cons_of_mem _ (List.mem_append_right _ (h))) gX12_undoes_all
set_option maxRecDepth 20000 in
theorem gX12_makes_X12_undoes : GoodIn wsX12_makes (wsV RX12 174 RX12 yX12_undoes wsX12_undoes) := goodIn_app (goodIn_r _ [8, 9, 10, 7] rfl (by decide +kernel)) ggX12_makes_X12_undoes

end

/-! 59u.rows -/
section
theorem rpz_s {v k : Nat} (h : k ≤ 2) : rpz v (k + 1) = rpz v k * v := by
  have k3 : k = 0 ∨ k = 1 ∨ k = 2 := by omega
  rcases k3 with e | e | e <;> subst e
  · show v = 1 * v; omega
  · rfl
  · rfl
theorem pw_s {v p p' k k' : Int32} (h : p.toInt = rpz v.toNatClampNeg k.toNatClampNeg) (e : p' = p * v) (hv : 1 ≤ v.toInt ∧ v.toInt ≤ 6) (hp : 0 ≤ p.toInt ∧ p.toInt ≤ 36) (hk : 0 ≤ k.toInt ∧ k.toInt ≤ 2) (hk' : k'.toInt = k.toInt + 1) : p'.toInt = rpz v.toNatClampNeg k'.toNatClampNeg := by
  have c := v_clamp hk.1
  have e1 : k'.toNatClampNeg = k.toNatClampNeg + 1 := ix_eq (by omega)
  have q := (v_mulz e (by omega) (by omega)).1
  have cp : p.toNatClampNeg = rpz v.toNatClampNeg k.toNatClampNeg := ix_eq h
  rw [e1, rpz_s (by omega), ← cp]
  exact q

set_option maxHeartbeats 40000000 in
set_option maxRecDepth 100000 in
theorem f_X12_power (l : Launch) (dC : Nat → ClassId) (dI : Nat → Nat → Nat) (cI cS : ClassId) (sz : Nat) (v : Int32) (n : Int32) (g_v : 1 ≤ v.toInt ∧ v.toInt ≤ 6) (g_n : 0 ≤ n.toInt ∧ n.toInt ≤ 3) : kMi l yX12_power wsX12_power ({ frames := 0, cells := 0, slots := 0, locals := 0 } : Room) [.int v, .int n] sz (dC, dI) vwCl [(cI, .int), (cS, .short)] [] (fun _ => True) 0 0 (fun (A : Nat → Prop) (r : Int32) (hh9 : Heap) => ∀ PZ9 : Prop, (kPD (dC, dI) vwCl A [] hh9 → (1 ≤ r.toInt ∧ r.toInt ≤ 216) → ((n.toInt = 0 ∧ r.toInt = 1) ∨ (n.toInt = 1 ∧ 1 ≤ r.toInt ∧ r.toInt ≤ 6) ∨ (n.toInt = 2 ∧ 1 ≤ r.toInt ∧ r.toInt ≤ 36) ∨ (n.toInt = 3 ∧ 1 ≤ r.toInt ∧ r.toInt ≤ 216)) → (r.toInt = rpz v.toNatClampNeg n.toNatClampNeg) → PZ9) → PZ9) := by
  refine kMi_of (cc := cX12_power) (maxL := 4) (ret := (some .int)) (lv := [(0, .int v), (1, .int n)]) (by decide +kernel) rfl rfl (Nat.le_of_ble_eq_true rfl) ?_
  intro p e s m below meth c A QQ ls hx hb hr hts hml hown hlocks hA hQQ hK hX hP hD hS hl
  have hown : s.vm.findClass RX12 = some m.cls := hown
  have hcf := k_cf hx hb hml hown hts
  refine lv_iconst (v := 1) hx hb dX12_power_0 (by decide) ?_
  refine lv_istore_n (lv' := [(2, .int 1), (0, .int v), (1, .int n)]) hx hb dX12_power_1 rfl hl (by decide) rfl (fun ls hl => ?_)
  refine lv_iconst (v := 0) hx hb dX12_power_2 (by decide) ?_
  refine lv_istore_n (lv' := [(3, .int 0), (2, .int 1), (0, .int v), (1, .int n)]) hx hb dX12_power_3 rfl hl (by decide) rfl (fun ls hl => ?_)
  have LOOP_4 : ∀ (k_4 : Nat) (p_ : Int32) (k : Int32) (H : Heap) (locs : List Loc) (ls : Array Slot), MSd (3 - k.toInt : Int) k_4 → (1 ≤ p_.toInt ∧ p_.toInt ≤ 216) → (0 ≤ k.toInt ∧ k.toInt ≤ n.toInt) → ((k.toInt = 0 ∧ p_.toInt = 1) ∨ (k.toInt = 1 ∧ p_.toInt ≤ 6) ∨ (k.toInt = 2 ∧ p_.toInt ≤ 36) ∨ (k.toInt = 3 ∧ p_.toInt ≤ 216)) → (p_.toInt = rpz v.toNatClampNeg k.toNatClampNeg) → va_P (dC, dI) vwCl [] H → va_D A [] → va_S A s.heap H locs → lv_has ls 4 [(3, .int k), (2, .int p_), (0, .int v), (1, .int n)] → W p l e (headSpec wsX12_power ({ frames := 0, cells := 0, slots := 0, locals := 0 } : Room)).room s m ([.int v, .int n] : List Value).toArray below meth c H locs 0 0 (MQ below QQ ([.int v, .int n] : List Value).toArray s 0 0 A) (F0 m 4 ls []) := by
    clear hP hD hS hl
    intro k_4
    induction k_4 with
    | zero =>
      intro p_ k H locs ls hm_4 g_p_ g_k hpk hpz hP hD hS hl
      exact ms_0 hm_4
    | succ k_4 ih_4 =>
      intro p_ k H locs ls hm_4 g_p_ g_k hpk hpz hP hD hS hl
      refine lv_iload_n hx hb dX12_power_4 rfl (lv_at hl 0 rfl) ?_
      refine lv_iload_n hx hb dX12_power_5 rfl (lv_at hl 3 rfl) ?_
      refine lv_icmp_ge (tgt := 19) hx hb dX12_power_6 (by decide) (fun c_1 => ?_) (fun c_1 => ?_)
      · have tc_1 : n.toInt ≤ k.toInt := v_le c_1
        refine lv_iload_n hx hb dX12_power_19 rfl (lv_at hl 1 rfl) ?_
        exact kl_i (v := p_) hQQ hx hb hr hlocks hS dX12_power_20 (fun PZ9 kZ9 => kZ9 (⟨hP, hD⟩) (g_p_) (by show (n.toInt = 0 ∧ p_.toInt = 1) ∨ (n.toInt = 1 ∧ 1 ≤ p_.toInt ∧ p_.toInt ≤ 6) ∨ (n.toInt = 2 ∧ 1 ≤ p_.toInt ∧ p_.toInt ≤ 36) ∨ (n.toInt = 3 ∧ 1 ≤ p_.toInt ∧ p_.toInt ≤ 216); omega) ((show k = n from v_inj (by omega)) ▸ hpz))
      · have tc_1 : k.toInt < n.toInt := v_nle c_1
        refine lv_iload_n hx hb dX12_power_9 rfl (lv_at hl 1 rfl) ?_
        refine lv_iload_n hx hb dX12_power_10 rfl (lv_at hl 2 rfl) ?_
        refine lv_imul hx hb dX12_power_11 ?_
        refine lv_topi (fun x_2 ex_2 => ?_)
        have tm_x_2 := v_mulb ex_2 (by omega) (by omega) (by omega) (by omega)
        refine lv_istore_n (lv' := [(2, .int x_2), (3, .int k), (0, .int v), (1, .int n)]) hx hb dX12_power_12 rfl hl (by decide) rfl (fun ls hl => ?_)
        obtain ⟨x_3, ex_3⟩ : ∃ y : Int32, y = k + 1 := ⟨_, rfl⟩
        have tx_3 : x_3.toInt = k.toInt + 1 := v_add ex_3 (by show -2147483648 ≤ k.toInt + 1; omega) (by show k.toInt + 1 < 2147483648; omega)
        refine lv_iinc (v := x_3) (lv' := [(3, .int x_3), (2, .int x_2), (0, .int v), (1, .int n)]) hx hb dX12_power_13 hl (k := 1) rfl (by rw [ex_3]; rfl) (by decide) rfl (fun ls hl => ?_)
        refine lv_goto (tgt := 4) hx hb dX12_power_16 (by decide) ?_
        exact ih_4 x_2 x_3 _ _ _ (ms_lt hm_4 (by show ((3 - x_3.toInt : Int)) < 3 - k.toInt; omega) (by show (0 : Int) < 3 - k.toInt; omega)) (by show 1 ≤ x_2.toInt ∧ x_2.toInt ≤ 216; omega) (by show 0 ≤ x_3.toInt ∧ x_3.toInt ≤ n.toInt; omega) (by show (x_3.toInt = 0 ∧ x_2.toInt = 1) ∨ (x_3.toInt = 1 ∧ x_2.toInt ≤ 6) ∨ (x_3.toInt = 2 ∧ x_2.toInt ≤ 36) ∨ (x_3.toInt = 3 ∧ x_2.toInt ≤ 216); omega) (pw_s hpz ex_2 (by omega) (by omega) (by omega) (by omega)) hP hD hS (lv_sub hl [0, 1, 2, 3] rfl)
  exact LOOP_4 _ 1 0 _ _ _ (ms_s _) (by decide) (by show 0 ≤ (0 : Int) ∧ (0 : Int) ≤ n.toInt; omega) (by show (0 = 0 ∧ 1 = 1) ∨ (0 = 1 ∧ 1 ≤ 6) ∨ (0 = 2 ∧ 1 ≤ 36) ∨ (0 = 3 ∧ 1 ≤ 216); omega) (rfl) hP hD hS (lv_sub hl [0, 1, 2, 3] rfl)

theorem dg_0 {U : Nat → Nat → (Nat → Int32) → Nat → (Nat → Int32) → Prop} (hU : okU U) {z k k' c : Nat} {n n' : Int} {f g : Nat → Int32} (ek : k' = k) (en : n' = n) (hg : ∀ j : Nat, (j : Int) < n → g j = f j) : bEq U (digs z k c) (digs z k' c) n n' f g := by
  subst ek
  exact bl_cp hU (fun _ _ => Iff.rfl) en hg
theorem dg_c {z k k' : Nat} {c d e : Int32} (ek : k = k' + 1) (hz : 1 ≤ z) (hd : d.toNatClampNeg = c.toNatClampNeg % z) (he : e.toNatClampNeg = c.toNatClampNeg / z) : digs z k c.toNatClampNeg = d.toNatClampNeg :: digs z k' e.toNatClampNeg := by
  subst ek
  rw [digs, hd, he]
theorem dg_do {U : Nat → Nat → (Nat → Int32) → Nat → (Nat → Int32) → Prop} (hU : okU U) {L : List Nat} {z k k' : Nat} {c d e r l : Int32} {n n' : Int} {f g g2 : Nat → Int32} (h : bEq U L (digs z k c.toNatClampNeg) n n' f g) (ek : k = k' + 1) (hz : 1 ≤ z) (hd : d.toNatClampNeg = c.toNatClampNeg % z) (he : e.toNatClampNeg = c.toNatClampNeg / z) (ht : F_to U r l g2 d.toNatClampNeg n' g) (hr : ¬ r.toInt = 0) (hg : prg n' 0 65535 g) : bEq U L (digs z k' e.toNatClampNeg) n l.toInt f g2 := by
  rw [dg_c ek hz hd he] at h
  exact fun c k => (h c k).trans (UNL_cons hU (fun j hj => hg j (by omega)) (to_1n ht hr))
theorem dg_no {U : Nat → Nat → (Nat → Int32) → Nat → (Nat → Int32) → Prop} {L : List Nat} {z k k' : Nat} {c d e r l q l9 : Int32} {n n' : Int} {f g g2 f' : Nat → Int32} (h : bEq U L (digs z k c.toNatClampNeg) n n' f g) (ek : k = k' + 1) (hz : 1 ≤ z) (hd : d.toNatClampNeg = c.toNatClampNeg % z) (he : e.toNatClampNeg = c.toNatClampNeg / z) (ht : F_to U r l g2 d.toNatClampNeg n' g) (hr : r.toInt = 0) (hq : q.toInt = 0) : F_bd U L q l9 f' n f := by
  rw [dg_c ek hz hd he] at h
  exact Or.inr ⟨v_inj hq, fun c k w => UNL_no (to_0 ht hr) _ _ ((h c k).mp w)⟩
theorem dg_end {U : Nat → Nat → (Nat → Int32) → Nat → (Nat → Int32) → Prop} {L : List Nat} {z k c : Nat} {q l9 : Int32} {n n' : Int} {f g f' : Nat → Int32} (h : bEq U L (digs z k c) n n' f g) (ek : k = 0) (h0 : 0 ≤ n') (hq : q.toInt = 1) (hl : l9.toInt = n') (hf : ∀ j : Nat, (j : Int) < n' → f' j = g j) : F_bd U L q l9 f' n f := by
  subst ek
  exact Or.inl ⟨v_inj hq, n'.toNat, by omega, (h _ _).mpr ⟨rfl, fun i hi => hf i (by omega)⟩⟩
theorem md_n {a b x : Int32} (h : x = a - a / b * b) (ha : 0 ≤ a.toInt) (hb : 1 ≤ b.toInt) : x.toNatClampNeg = a.toNatClampNeg % b.toNatClampNeg := by
  have q := v_rem h ha (by omega)
  have c1 := v_clamp ha
  have c2 := v_clamp (x := b) (by omega)
  refine ix_eq ?_
  rw [q, Int.natCast_emod, c1, c2]
theorem dv_n {a b x : Int32} (h : x = a / b) (ha : 0 ≤ a.toInt) (hb : 1 ≤ b.toInt) : x.toNatClampNeg = a.toNatClampNeg / b.toNatClampNeg := by
  have q := v_div h ha (by omega)
  have c1 := v_clamp ha
  have c2 := v_clamp (x := b) (by omega)
  refine ix_eq ?_
  rw [q, Int.natCast_ediv, c1, c2]
theorem HM_lzr {e1 e2 eL eB : Nat → Int32} (hz : LZ eL) (gB : rg (-1) 255 eB) {h n c : Nat} {f f' : Nat → Int32} (hf : prg n 0 65535 f) (a : UR e1 e2 eL eB h n f c f') : ∀ i, i < c → isLz (f' i) := (HM_lz hz hf (okB_r gB) a).2
theorem to_lz {e1 e2 eL eB : Nat → Int32} (hz : LZ eL) (gB : rg (-1) 255 eB) {r l : Int32} {h : Nat} {n : Int} {f f' : Nat → Int32} (hf : prg n 0 65535 f) (a : F_to (UR e1 e2 eL eB) r l f' h n f) (e : ¬ r.toInt = 0) : ∀ j : Nat, (j : Int) < l.toInt → isLz (f' j) := by
  obtain ⟨c, c1, c2⟩ := to_1 a e
  exact fun j hj => HM_lzr hz gB (fun j hj => hf j (by omega)) c2 j (by omega)

set_option maxHeartbeats 40000000 in
set_option maxRecDepth 100000 in
theorem f_X12_makes (l : Launch) (dC : Nat → ClassId) (dI : Nat → Nat → Nat) (cI cS : ClassId) (sz : Nat) (oM : Nat) (mT : Nat) (mS : Nat) (mX : Nat) (mL : Nat) (mB : Nat) (mD : Nat) (m1 : Nat) (m2 : Nat) (mR : Nat) (x1 : Nat) (x2 : Nat) (x3 : Nat) (mH : Nat) (mY : Nat) (mE : Nat) (mW : Nat) (mO : Nat) (y1 : Nat) (y2 : Nat) (y3 : Nat) (y4 : Nat) (mZ : Nat) (zt : Int32) (zp : Int32) (zf : Int32) (zh : Int32) (zr : Int32) (zc : Int32) (zy : Int32) (za : Int32) (zb : Int32) (zs : Int32) (zq : Int32) (zw : Int32) (ze : Int32) (zn : Int32) (zm : Int32) (zl : Int32) (zk : Int32) (zd : Int32) (eY : Nat → Int32) (eB : Nat → Int32) (eL : Nat → Int32) (eE : Nat → Int32) (eW : Nat → Int32) (eO : Nat → Int32) (eS : Nat → Int32) (eX : Nat → Int32) (e1 : Nat → Int32) (e2 : Nat → Int32) (co : Int32) (my : Int32) (g_zt : 0 ≤ zt.toInt ∧ zt.toInt ≤ 900) (g_zp : 0 ≤ zp.toInt ∧ zp.toInt ≤ 20) (g_zf : 0 ≤ zf.toInt ∧ zf.toInt ≤ 19) (g_zh : 0 ≤ zh.toInt ∧ zh.toInt ≤ 6) (g_zr : 0 ≤ zr.toInt ∧ zr.toInt ≤ 258) (g_zc : 0 ≤ zc.toInt ∧ zc.toInt ≤ 300) (g_zy : 0 ≤ zy.toInt ∧ zy.toInt ≤ 65536) (g_za : 0 ≤ za.toInt ∧ za.toInt ≤ 5) (g_zb : 0 ≤ zb.toInt ∧ zb.toInt ≤ 5) (g_zs : 0 ≤ zs.toInt ∧ zs.toInt ≤ 2000000) (g_zq : -1 ≤ zq.toInt ∧ zq.toInt ≤ 2000000) (g_zn : 0 ≤ zn.toInt ∧ zn.toInt ≤ 2600) (g_zm : 0 ≤ zm.toInt ∧ zm.toInt ≤ 2600) (g_zk : 0 ≤ zk.toInt ∧ zk.toInt ≤ 300) (g_eY : rg 0 255 eY) (g_eB : rg (-1) 255 eB) (g_eL : rg (-1) 65535 eL) (g_eE : rg 0 65535 eE) (g_eW : rg 0 65535 eW) (g_eO : rg 0 65535 eO) (g_eS : rg 0 300 eS) (g_eX : rg 0 65535 eX) (g_e1 : rg 0 5 e1) (g_e2 : rg 0 5 e2) (g_co : 0 ≤ co.toInt ∧ co.toInt ≤ 1000) (g_my : 0 ≤ my.toInt ∧ my.toInt ≤ 3) (hzh : 1 ≤ zh.toInt) (hxl : ∀ j : Nat, (j : Int) < (eS 0).toInt → isLz (eX j)) (hlb : LBr eL eB) (hlz : LZ eL) : kMi l yX12_makes wsX12_makes ({ frames := 5, cells := 0, slots := 0, locals := 120 } : Room) [.ref oM, .int co, .int my] sz (dC, dI) vwCl [(cI, .int), (cS, .short)] [(oM, .inr (12, [.ref mT, .int zt, .ref mS, .ref mX, .int zp, .int zf, .ref mL, .ref mB, .ref mD, .ref m1, .ref m2, .int zh, .ref mR, .int zr, .ref x1, .ref x2, .ref x3, .int zc, .ref mH, .int zy, .int za, .int zb, .int zs, .int zq, .int zw, .int ze, .ref mY, .int zn, .ref mE, .int zm, .int zl, .ref mW, .int zk, .ref mO, .int zd, .ref y1, .ref y2, .ref y3, .ref y4, .ref mZ])), (mY, .inl (cI, 2600, .inl eY)), (mB, .inl (cS, 131072, .inl eB)), (mL, .inl (cI, 512, .inl eL)), (mE, .inl (cI, 2600, .inl eE)), (mW, .inl (cI, 300, .inl eW)), (mO, .inl (cI, 300, .inl eO)), (mS, .inl (cI, 21, .inl eS)), (mX, .inl (cI, 6300, .inl eX)), (m1, .inl (cI, 6, .inl e1)), (m2, .inl (cI, 6, .inl e2))] (fun _ => True) 0 0 (fun (A : Nat → Prop) (r : Int32) (hh9 : Heap) => ∀ PZ9 : Prop, (∀ (zn' : Int32) (eY' : Nat → Int32) (zd' : Int32) (zm' : Int32) (zl' : Int32) (eE' : Nat → Int32) (zk' : Int32) (eW' : Nat → Int32) (eO' : Nat → Int32), kPD (dC, dI) vwCl A [(oM, .inr (12, [.ref mT, .int zt, .ref mS, .ref mX, .int zp, .int zf, .ref mL, .ref mB, .ref mD, .ref m1, .ref m2, .int zh, .ref mR, .int zr, .ref x1, .ref x2, .ref x3, .int zc, .ref mH, .int zy, .int za, .int zb, .int zs, .int zq, .int zw, .int ze, .ref mY, .int zn', .ref mE, .int zm', .int zl', .ref mW, .int zk', .ref mO, .int zd', .ref y1, .ref y2, .ref y3, .ref y4, .ref mZ])), (mY, .inl (cI, 2600, .inl eY')), (mB, .inl (cS, 131072, .inl eB)), (mL, .inl (cI, 512, .inl eL)), (mE, .inl (cI, 2600, .inl eE')), (mW, .inl (cI, 300, .inl eW')), (mO, .inl (cI, 300, .inl eO')), (mS, .inl (cI, 21, .inl eS)), (mX, .inl (cI, 6300, .inl eX)), (m1, .inl (cI, 6, .inl e1)), (m2, .inl (cI, 6, .inl e2))] hh9 → (0 ≤ zn'.toInt ∧ zn'.toInt ≤ 2600) → (rg 0 255 eY') → (0 ≤ zm'.toInt ∧ zm'.toInt ≤ 2600) → (rg 0 65535 eE') → (0 ≤ zk'.toInt ∧ zk'.toInt ≤ 300) → (rg 0 65535 eW') → (rg 0 65535 eO') → (0 ≤ r.toInt ∧ r.toInt ≤ 1) → (F_bd (UR e1 e2 eL eB) (digs zh.toNatClampNeg my.toNatClampNeg co.toNatClampNeg) r zk' eW' (eS 0).toInt eX) → PZ9) → PZ9) := by
  refine kMi_of (cc := cX12_makes) (maxL := 6) (ret := (some .boolean)) (lv := [(0, .ref oM), (1, .int co), (2, .int my)]) (by decide +kernel) rfl rfl (Nat.le_of_ble_eq_true rfl) ?_
  intro p e s m below meth c A QQ ls hx hb hr hts hml hown hlocks hA hQQ hK hX hP hD hS hl
  have hown : s.vm.findClass RX12 = some m.cls := hown
  have hcf := k_cf hx hb hml hown hts
  have in_X12 : ∀ w ∈ wsX120, w ∈ wsX12_makes := fun _ h => List.mem_cons_of_mem _ (List.mem_append_left _ (List.mem_append_left _ (List.mem_append_right _ (h))))
  replace g_zt := hid g_zt
  replace g_zp := hid g_zp
  replace g_zf := hid g_zf
  replace g_zr := hid g_zr
  replace g_zc := hid g_zc
  replace g_zy := hid g_zy
  replace g_za := hid g_za
  replace g_zb := hid g_zb
  replace g_zs := hid g_zs
  replace g_zq := hid g_zq
  replace g_zn := hid g_zn
  replace g_zm := hid g_zm
  replace g_zk := hid g_zk
  have hU : okU (UR e1 e2 eL eB) := okU_R g_eB g_eL
  have hlb9 := hlb
  have z0 : (0 : Int32).toInt = 0 := rfl
  have z1 : (1 : Int32).toInt = 1 := rfl
  have zm1 : (-1 : Int32).toInt = -1 := rfl
  have cm0 := v_clamp (x := my) (by omega)
  have cz0 := v_clamp (x := zh) (by omega)
  refine lv_aload_n hx hb dX12_makes_0 rfl (lv_at hl 0 rfl) ?_
  refine kV_v (rest := []) (q0 := 0) (ci := 12) hcf (f_X12_takeText l dC dI cI cS s.heap.size oM mT mS mX mL mB mD m1 m2 mR x1 x2 x3 mH mY mE mW mO y1 y2 y3 y4 mZ zt zp zf zh zr zc zy za zb zs zq zw ze zn zm zl zk zd eS eX eW (g_zt) (g_zp) (g_zf) (g_zh) (g_zr) (g_zc) (g_zy) (g_za) (g_zb) (g_zs) (g_zq) (g_zn) (g_zm) (g_zk) (g_eS) (g_eX) (g_eW)) kc_X12_takeText gX12_makes_X12_takeText rfl rfl rfl ⟨Nat.le_of_ble_eq_true rfl, Nat.le_of_ble_eq_true rfl⟩ kX_t hK hP hD hS hA ([0, 2, 3, 1].filterMap (fun j => (posT mk_169 0)[j]?)) (posF mk_169 0) (kCp (ws := [(oM, .inr (12, [.ref mT, .int zt, .ref mS, .ref mX, .int zp, .int zf, .ref mL, .ref mB, .ref mD, .ref m1, .ref m2, .int zh, .ref mR, .int zr, .ref x1, .ref x2, .ref x3, .int zc, .ref mH, .int zy, .int za, .int zb, .int zs, .int zq, .int zw, .int ze, .ref mY, .int zn, .ref mE, .int zm, .int zl, .ref mW, .int zk, .ref mO, .int zd, .ref y1, .ref y2, .ref y3, .ref y4, .ref mZ])), (mW, .inl (cI, 300, .inl eW)), (mS, .inl (cI, 21, .inl eS)), (mX, .inl (cI, 6300, .inl eX))]) (kC_of mk_169 rfl rfl) rfl) (by decide +kernel) rfl rfl rfl hl rfl (Nat.le_of_ble_eq_true rfl) dX12_makes_1 ⟨Nat.le_of_ble_eq_true rfl, Nat.le_of_ble_eq_true rfl⟩ (fun H locs hB hJ hSn => ?_)
  refine hB _ (fun zk_1 eW_1 hPD9 hf1_0 hf1_1 hf1_2 => ?_)
  clear hB
  obtain ⟨hPn, hDn⟩ := kJm (m := mk_169) hJ rfl hPD9.1 hPD9.2 [0, 3, 1, 2] (by decide +kernel) (ws := [(oM, .inr (12, [.ref mT, .int zt, .ref mS, .ref mX, .int zp, .int zf, .ref mL, .ref mB, .ref mD, .ref m1, .ref m2, .int zh, .ref mR, .int zr, .ref x1, .ref x2, .ref x3, .int zc, .ref mH, .int zy, .int za, .int zb, .int zs, .int zq, .int zw, .int ze, .ref mY, .int zn, .ref mE, .int zm, .int zl, .ref mW, .int zk_1, .ref mO, .int zd, .ref y1, .ref y2, .ref y3, .ref y4, .ref mZ])), (mW, .inl (cI, 300, .inl eW_1)), (mS, .inl (cI, 21, .inl eS)), (mX, .inl (cI, 6300, .inl eX))]) rfl (wn := [(oM, .inr (12, [.ref mT, .int zt, .ref mS, .ref mX, .int zp, .int zf, .ref mL, .ref mB, .ref mD, .ref m1, .ref m2, .int zh, .ref mR, .int zr, .ref x1, .ref x2, .ref x3, .int zc, .ref mH, .int zy, .int za, .int zb, .int zs, .int zq, .int zw, .int ze, .ref mY, .int zn, .ref mE, .int zm, .int zl, .ref mW, .int zk_1, .ref mO, .int zd, .ref y1, .ref y2, .ref y3, .ref y4, .ref mZ])), (mY, .inl (cI, 2600, .inl eY)), (mB, .inl (cS, 131072, .inl eB)), (mL, .inl (cI, 512, .inl eL)), (mE, .inl (cI, 2600, .inl eE)), (mW, .inl (cI, 300, .inl eW_1)), (mO, .inl (cI, 300, .inl eO)), (mS, .inl (cI, 21, .inl eS)), (mX, .inl (cI, 6300, .inl eX)), (m1, .inl (cI, 6, .inl e1)), (m2, .inl (cI, 6, .inl e2))]) rfl
  clear hP hD hS hJ hPD9
  have hP := hPn
  have hD := hDn
  have hS := hSn
  clear hPn hDn hSn
  refine lv_iload_n hx hb dX12_makes_4 rfl (lv_at hl 1 rfl) ?_
  refine lv_istore_n (lv' := [(3, .int co), (0, .ref oM), (1, .int co), (2, .int my)]) hx hb dX12_makes_5 rfl hl (by decide) rfl (fun ls hl => ?_)
  refine lv_iconst (v := 0) hx hb dX12_makes_6 (by decide) ?_
  refine lv_istore (lv' := [(4, .int 0), (3, .int co), (0, .ref oM), (1, .int co), (2, .int my)]) hx hb dX12_makes_7 hl (by decide) rfl (fun ls hl => ?_)
  have LOOP_9 : ∀ (k_9 : Nat) (cc_ : Int32) (k : Int32) (zna : Int32) (zda : Int32) (zma : Int32) (zla : Int32) (zka : Int32) (eYa : Nat → Int32) (eEa : Nat → Int32) (eWa : Nat → Int32) (eOa : Nat → Int32) (H : Heap) (locs : List Loc) (ls : Array Slot), MSd (3 - k.toInt : Int) k_9 → (0 ≤ cc_.toInt ∧ cc_.toInt ≤ 1000) → (0 ≤ k.toInt ∧ k.toInt ≤ 3) → (0 ≤ zna.toInt ∧ zna.toInt ≤ 2600) → (0 ≤ zma.toInt ∧ zma.toInt ≤ 2600) → (0 ≤ zka.toInt ∧ zka.toInt ≤ 300) → (rg 0 255 eYa) → (rg 0 65535 eEa) → (rg 0 65535 eWa) → (rg 0 65535 eOa) → (k.toInt ≤ my.toInt) → (bEq (UR e1 e2 eL eB) (digs zh.toNatClampNeg my.toNatClampNeg co.toNatClampNeg) (digs zh.toNatClampNeg (my.toInt - k.toInt).toNat cc_.toNatClampNeg) (eS 0).toInt zka.toInt eX eWa) → (∀ j : Nat, (j : Int) < zka.toInt → isLz (eWa j)) → va_P (dC, dI) vwCl [(oM, .inr (12, [.ref mT, .int zt, .ref mS, .ref mX, .int zp, .int zf, .ref mL, .ref mB, .ref mD, .ref m1, .ref m2, .int zh, .ref mR, .int zr, .ref x1, .ref x2, .ref x3, .int zc, .ref mH, .int zy, .int za, .int zb, .int zs, .int zq, .int zw, .int ze, .ref mY, .int zna, .ref mE, .int zma, .int zla, .ref mW, .int zka, .ref mO, .int zda, .ref y1, .ref y2, .ref y3, .ref y4, .ref mZ])), (mY, .inl (cI, 2600, .inl eYa)), (mB, .inl (cS, 131072, .inl eB)), (mL, .inl (cI, 512, .inl eL)), (mE, .inl (cI, 2600, .inl eEa)), (mW, .inl (cI, 300, .inl eWa)), (mO, .inl (cI, 300, .inl eOa)), (mS, .inl (cI, 21, .inl eS)), (mX, .inl (cI, 6300, .inl eX)), (m1, .inl (cI, 6, .inl e1)), (m2, .inl (cI, 6, .inl e2))] H → va_D A [(oM, .inr (12, [.ref mT, .int zt, .ref mS, .ref mX, .int zp, .int zf, .ref mL, .ref mB, .ref mD, .ref m1, .ref m2, .int zh, .ref mR, .int zr, .ref x1, .ref x2, .ref x3, .int zc, .ref mH, .int zy, .int za, .int zb, .int zs, .int zq, .int zw, .int ze, .ref mY, .int zna, .ref mE, .int zma, .int zla, .ref mW, .int zka, .ref mO, .int zda, .ref y1, .ref y2, .ref y3, .ref y4, .ref mZ])), (mY, .inl (cI, 2600, .inl eYa)), (mB, .inl (cS, 131072, .inl eB)), (mL, .inl (cI, 512, .inl eL)), (mE, .inl (cI, 2600, .inl eEa)), (mW, .inl (cI, 300, .inl eWa)), (mO, .inl (cI, 300, .inl eOa)), (mS, .inl (cI, 21, .inl eS)), (mX, .inl (cI, 6300, .inl eX)), (m1, .inl (cI, 6, .inl e1)), (m2, .inl (cI, 6, .inl e2))] → va_S A s.heap H locs → lv_has ls 6 [(4, .int k), (3, .int cc_), (0, .ref oM), (1, .int co), (2, .int my)] → W p l e (headSpec wsX12_makes ({ frames := 5, cells := 0, slots := 0, locals := 120 } : Room)).room s m ([.ref oM, .int co, .int my] : List Value).toArray below meth c H locs 0 0 (MQ below QQ ([.ref oM, .int co, .int my] : List Value).toArray s 0 0 A) (F0 m 9 ls []) := by
    clear hP hD hS hl
    intro k_9
    induction k_9 with
    | zero =>
      intro cc_ k zna zda zma zla zka eYa eEa eWa eOa H locs ls hm_9 g_cc_ g_k g_zna g_zma g_zka g_eYa g_eEa g_eWa g_eOa hkm hmq hzl hP hD hS hl
      exact ms_0 hm_9
    | succ k_9 ih_9 =>
      intro cc_ k zna zda zma zla zka eYa eEa eWa eOa H locs ls hm_9 g_cc_ g_k g_zna g_zma g_zka g_eYa g_eEa g_eWa g_eOa hkm hmq hzl hP hD hS hl
      refine lv_iload hx hb dX12_makes_9 (lv_at hl 0 rfl) ?_
      refine lv_iload_n hx hb dX12_makes_11 rfl (lv_at hl 4 rfl) ?_
      refine lv_icmp_ge (tgt := 59) hx hb dX12_makes_12 (by decide) (fun c_2 => ?_) (fun c_2 => ?_)
      · have tc_2 : my.toInt ≤ k.toInt := v_le c_2
        refine lv_iconst (v := 1) hx hb dX12_makes_59 (by decide) ?_
        exact kl_z (v := 1) hQQ hx hb hr hlocks hS dX12_makes_60 (rfl) (fun PZ9 kZ9 => kZ9 zna eYa zda zma zla eEa zka eWa eOa (⟨hP, hD⟩) (g_zna) (g_eYa) (g_zma) (g_eEa) (g_zka) (g_eWa) (g_eOa) (by decide) (dg_end hmq (by omega) (by omega) rfl rfl (fun j hj => rfl)))
      · have tc_2 : k.toInt < my.toInt := v_nle c_2
        refine lv_iload_n hx hb dX12_makes_15 rfl (lv_at hl 1 rfl) ?_
        refine lv_aload_n hx hb dX12_makes_16 rfl (lv_at hl 2 rfl) ?_
        refine va_get (D := (dC, dI)) (ci := 12) (v := .int zh) (C := RX12) (T := TX12) (N := 40) hx hb hts in_X12 hown hK hP 0 rfl rfl 11 (Nat.le_of_ble_eq_true rfl) (hts (.fieldLink RX12 161 "TextMenderModel" "harms" "I") (List.mem_of_getElem? (i := 1) rfl)) (fun _ h9 => h9) rfl dX12_makes_17 ?_
        refine lv_irem hx hb dX12_makes_20 (v_nz (by omega)) ?_
        refine lv_topi (fun x_3 ex_3 => ?_)
        have tx_3 : 0 ≤ x_3.toInt ∧ x_3.toInt < zh.toInt := v_remr ex_3 (by show 0 ≤ cc_.toInt; omega) (by show 1 ≤ zh.toInt; omega)
        refine lv_istore (lv' := [(5, .int x_3), (4, .int k), (3, .int cc_), (0, .ref oM), (1, .int co), (2, .int my)]) hx hb dX12_makes_21 hl (by decide) rfl (fun ls hl => ?_)
        refine lv_iload_n hx hb dX12_makes_23 rfl (lv_at hl 2 rfl) ?_
        refine lv_aload_n hx hb dX12_makes_24 rfl (lv_at hl 3 rfl) ?_
        refine va_get (D := (dC, dI)) (ci := 12) (v := .int zh) (C := RX12) (T := TX12) (N := 40) hx hb hts in_X12 hown hK hP 0 rfl rfl 11 (Nat.le_of_ble_eq_true rfl) (hts (.fieldLink RX12 161 "TextMenderModel" "harms" "I") (List.mem_of_getElem? (i := 1) rfl)) (fun _ h9 => h9) rfl dX12_makes_25 ?_
        refine lv_idiv hx hb dX12_makes_28 (v_nz (by omega)) ?_
        refine lv_topi (fun x_4 ex_4 => ?_)
        have tx_4 : 0 ≤ x_4.toInt ∧ x_4.toInt ≤ cc_.toInt := v_divr ex_4 (by show 0 ≤ cc_.toInt; omega) (by show 1 ≤ zh.toInt; omega)
        refine lv_istore_n (lv' := [(3, .int x_4), (5, .int x_3), (4, .int k), (0, .ref oM), (1, .int co), (2, .int my)]) hx hb dX12_makes_29 rfl hl (by decide) rfl (fun ls hl => ?_)
        refine lv_aload_n hx hb dX12_makes_30 rfl (lv_at hl 3 rfl) ?_
        refine lv_aload_n hx hb dX12_makes_31 rfl (lv_at hl 3 rfl) ?_
        refine va_get (D := (dC, dI)) (ci := 12) (v := .ref m1) (C := RX12) (T := TX12) (N := 40) hx hb hts in_X12 hown hK hP 0 rfl rfl 9 (Nat.le_of_ble_eq_true rfl) (hts (.fieldLink RX12 30 "TextMenderModel" "harmA" "[I") (List.mem_of_getElem? (i := 2) rfl)) (fun _ h9 => h9) rfl dX12_makes_32 ?_
        refine lv_iload hx hb dX12_makes_35 (lv_at hl 1 rfl) ?_
        refine va_iald hx hb hK hP 9 0 rfl rfl (v_in (by omega)) dX12_makes_37 ?_
        refine lv_topi (fun x_5 ex_5 => ?_)
        have tx_5 : 0 ≤ x_5.toInt ∧ x_5.toInt ≤ 5 := rg_at g_e1 ex_5
        refine lv_aload_n hx hb dX12_makes_38 rfl (lv_at hl 3 rfl) ?_
        refine va_get (D := (dC, dI)) (ci := 12) (v := .ref m2) (C := RX12) (T := TX12) (N := 40) hx hb hts in_X12 hown hK hP 0 rfl rfl 10 (Nat.le_of_ble_eq_true rfl) (hts (.fieldLink RX12 33 "TextMenderModel" "harmB" "[I") (List.mem_of_getElem? (i := 3) rfl)) (fun _ h9 => h9) rfl dX12_makes_39 ?_
        refine lv_iload hx hb dX12_makes_42 (lv_at hl 1 rfl) ?_
        refine va_iald hx hb hK hP 10 0 rfl rfl (v_in (by omega)) dX12_makes_44 ?_
        refine lv_topi (fun x_6 ex_6 => ?_)
        have tx_6 : 0 ≤ x_6.toInt ∧ x_6.toInt ≤ 5 := rg_at g_e2 ex_6
        refine kV_i (rest := []) (q0 := 0) (ci := 12) hcf (f_X12_undoes l dC dI cI cS H.size oM mT mS mX mL mB mD m1 m2 mR x1 x2 x3 mH mY mE mW mO y1 y2 y3 y4 mZ zt zp zf zh zr zc zy za zb zs zq zw ze zna zma zla zka zda eYa eB eL eEa eWa eOa x_5 x_6 (g_zt) (g_zp) (g_zf) (g_zh) (g_zr) (g_zc) (g_zy) (g_za) (g_zb) (g_zs) (g_zq) (g_zna) (g_zma) (g_zka) (g_eYa) (g_eB) (g_eL) (g_eEa) (g_eWa) (g_eOa) (v_rr tx_5 (by decide) (by decide)) (v_rr tx_6 (by decide) (by decide)) (hzl) (hlb)) kc_X12_undoes gX12_makes_X12_undoes rfl rfl rfl ⟨Nat.le_of_ble_eq_true rfl, Nat.le_of_ble_eq_true rfl⟩ kX_t hK hP hD hS hA (posT mk_170 0) (posF mk_170 0) (kC_of mk_170 rfl rfl) (by decide +kernel) rfl rfl rfl hl rfl (Nat.le_of_ble_eq_true rfl) dX12_makes_45 ⟨Nat.le_of_ble_eq_true rfl, Nat.le_of_ble_eq_true rfl⟩ (fun r_7 H locs hB hJ hSn => ?_)
        refine hB _ (fun zn_7 eY_7 zd_7 zm_7 zl_7 eE_7 zk_7 eW_7 eO_7 hPD9 hf7_0 hf7_1 hf7_2 hf7_3 hf7_4 hf7_5 hf7_6 hf7_7 hf7_8 => ?_)
        clear hB
        obtain ⟨hPn, hDn⟩ := kJi (m := mk_170) hJ rfl hPD9.1 hPD9.2 (wn := [(oM, .inr (12, [.ref mT, .int zt, .ref mS, .ref mX, .int zp, .int zf, .ref mL, .ref mB, .ref mD, .ref m1, .ref m2, .int zh, .ref mR, .int zr, .ref x1, .ref x2, .ref x3, .int zc, .ref mH, .int zy, .int za, .int zb, .int zs, .int zq, .int zw, .int ze, .ref mY, .int zn_7, .ref mE, .int zm_7, .int zl_7, .ref mW, .int zk_7, .ref mO, .int zd_7, .ref y1, .ref y2, .ref y3, .ref y4, .ref mZ])), (mY, .inl (cI, 2600, .inl eY_7)), (mB, .inl (cS, 131072, .inl eB)), (mL, .inl (cI, 512, .inl eL)), (mE, .inl (cI, 2600, .inl eE_7)), (mW, .inl (cI, 300, .inl eW_7)), (mO, .inl (cI, 300, .inl eO_7)), (mS, .inl (cI, 21, .inl eS)), (mX, .inl (cI, 6300, .inl eX)), (m1, .inl (cI, 6, .inl e1)), (m2, .inl (cI, 6, .inl e2))]) rfl
        clear hP hD hS hJ hPD9
        have hP := hPn
        have hD := hDn
        have hS := hSn
        clear hPn hDn hSn
        refine lv_if_ne (tgt := 53) hx hb dX12_makes_48 (by decide) (fun c_8 => ?_) (fun c_8 => ?_)
        · have tc_8 : ¬ r_7.toInt = 0 := v_ne c_8
          obtain ⟨x_9, ex_9⟩ : ∃ y : Int32, y = k + 1 := ⟨_, rfl⟩
          have tx_9 : x_9.toInt = k.toInt + 1 := v_addR (l2 := 1) (h2 := 1) ex_9 g_k (by decide) (by decide) (by decide)
          refine lv_iinc (v := x_9) (lv' := [(4, .int x_9), (3, .int x_4), (5, .int x_3), (0, .ref oM), (1, .int co), (2, .int my)]) hx hb dX12_makes_53 hl (k := 2) rfl (by rw [ex_9]; rfl) (by decide) rfl (fun ls hl => ?_)
          refine lv_goto (tgt := 9) hx hb dX12_makes_56 (by decide) ?_
          exact ih_9 x_4 x_9 zn_7 zd_7 zm_7 zl_7 zk_7 eY_7 eE_7 eW_7 eO_7 _ _ _ (ms_lt hm_9 (by show ((3 - x_9.toInt : Int)) < 3 - k.toInt; omega) (by show (0 : Int) < 3 - k.toInt; omega)) (by show 0 ≤ x_4.toInt ∧ x_4.toInt ≤ 1000; omega) (by show 0 ≤ x_9.toInt ∧ x_9.toInt ≤ 3; omega) (hf7_0) (hf7_2) (hf7_4) (hf7_1) (hf7_3) (hf7_5) (hf7_6) (by show x_9.toInt ≤ my.toInt; omega) (dg_do hU hmq (by omega) (by omega) (md_n ex_3 (by omega) (by omega)) (dv_n ex_4 (by omega) (by omega)) (to_ur (h := x_3.toNatClampNeg) hf7_8 ex_5 ex_6 rfl) (by omega) (rg_prg g_eWa)) (to_lz hlz g_eB (rg_prg g_eWa) (to_ur (h := x_3.toNatClampNeg) hf7_8 ex_5 ex_6 rfl) (by omega)) hP hD hS (lv_sub hl [0, 1, 3, 4, 5] rfl)
        · have tc_8 : r_7.toInt = 0 := v_eq c_8
          refine lv_iconst (v := 0) hx hb dX12_makes_51 (by decide) ?_
          exact kl_z (v := 0) hQQ hx hb hr hlocks hS dX12_makes_52 (rfl) (fun PZ9 kZ9 => kZ9 zn_7 eY_7 zd_7 zm_7 zl_7 eE_7 zk_7 eW_7 eO_7 (⟨hP, hD⟩) (hf7_0) (hf7_1) (hf7_2) (hf7_3) (hf7_4) (hf7_5) (hf7_6) (by decide) (dg_no (k' := (my.toInt - k.toInt).toNat - 1) hmq (by omega) (by omega) (md_n ex_3 (by omega) (by omega)) (dv_n ex_4 (by omega) (by omega)) (to_ur (h := x_3.toNatClampNeg) hf7_8 ex_5 ex_6 rfl) (by omega) rfl))
  exact LOOP_9 _ co 0 zn zd zm zl zk_1 eY eE eW_1 eO _ _ _ (ms_s _) (g_co) (by decide) (g_zn) (g_zm) (hf1_0) (g_eY) (g_eE) (hf1_1) (g_eO) (by show 0 ≤ my.toInt; omega) (dg_0 hU (by omega) (by rw [hf1_2.1]) (fun j hj => hf1_2.2 j (by rw [hf1_2.1]; exact hj))) (fun j hj => by rw [hf1_2.2 j hj]; exact hxl j (by rw [← hf1_2.1]; exact hj)) hP hD hS (lv_sub hl [0, 1, 2, 3, 4] rfl)

end

/-! 59v.a.rows -/
section
set_option maxRecDepth 100000 in
theorem dA272_cX12_mend : kDec cX12_mend [(0, .aload_n 0, 1), (1, .iconst 0, 1), (2, .putfield 85, 3), (5, .aload_n 0, 1), (6, .iconst (-1), 1), (7, .putfield 55, 3), (10, .iload_n 1, 1), (11, .iconst 1, 1), (12, .if_icmp .lt 19, 3), (31, .iconst (-1), 1), (32, .ireturn, 1), (15, .iload_n 1, 1), (16, .iconst 3, 1), (17, .if_icmp .gt 14, 3), (20, .iload_n 2, 1), (21, .iconst 1, 1), (22, .if_icmp .lt 9, 3), (25, .iload_n 2, 1), (26, .ldc 198, 2), (28, .if_icmp .le 5, 3), (33, .iconst (-1), 1), (34, .istore_n 3, 1), (35, .iconst 0, 1), (36, .istore 4, 2)] = true := by decide +kernel
theorem dX12_mend_0 : decode cX12_mend 0 = .ok (.aload_n 0, 1) := kDec_at dA272_cX12_mend 0 rfl
theorem dX12_mend_1 : decode cX12_mend 1 = .ok (.iconst 0, 1) := kDec_at dA272_cX12_mend 1 rfl
theorem dX12_mend_2 : decode cX12_mend 2 = .ok (.putfield 85, 3) := kDec_at dA272_cX12_mend 2 rfl
theorem dX12_mend_5 : decode cX12_mend 5 = .ok (.aload_n 0, 1) := kDec_at dA272_cX12_mend 3 rfl
theorem dX12_mend_6 : decode cX12_mend 6 = .ok (.iconst (-1), 1) := kDec_at dA272_cX12_mend 4 rfl
theorem dX12_mend_7 : decode cX12_mend 7 = .ok (.putfield 55, 3) := kDec_at dA272_cX12_mend 5 rfl
theorem dX12_mend_10 : decode cX12_mend 10 = .ok (.iload_n 1, 1) := kDec_at dA272_cX12_mend 6 rfl
theorem dX12_mend_11 : decode cX12_mend 11 = .ok (.iconst 1, 1) := kDec_at dA272_cX12_mend 7 rfl
theorem dX12_mend_12 : decode cX12_mend 12 = .ok (.if_icmp .lt 19, 3) := kDec_at dA272_cX12_mend 8 rfl
theorem dX12_mend_31 : decode cX12_mend 31 = .ok (.iconst (-1), 1) := kDec_at dA272_cX12_mend 9 rfl
theorem dX12_mend_32 : decode cX12_mend 32 = .ok (.ireturn, 1) := kDec_at dA272_cX12_mend 10 rfl
theorem dX12_mend_15 : decode cX12_mend 15 = .ok (.iload_n 1, 1) := kDec_at dA272_cX12_mend 11 rfl
theorem dX12_mend_16 : decode cX12_mend 16 = .ok (.iconst 3, 1) := kDec_at dA272_cX12_mend 12 rfl
theorem dX12_mend_17 : decode cX12_mend 17 = .ok (.if_icmp .gt 14, 3) := kDec_at dA272_cX12_mend 13 rfl
theorem dX12_mend_20 : decode cX12_mend 20 = .ok (.iload_n 2, 1) := kDec_at dA272_cX12_mend 14 rfl
theorem dX12_mend_21 : decode cX12_mend 21 = .ok (.iconst 1, 1) := kDec_at dA272_cX12_mend 15 rfl
theorem dX12_mend_22 : decode cX12_mend 22 = .ok (.if_icmp .lt 9, 3) := kDec_at dA272_cX12_mend 16 rfl
theorem dX12_mend_25 : decode cX12_mend 25 = .ok (.iload_n 2, 1) := kDec_at dA272_cX12_mend 17 rfl
theorem dX12_mend_26 : decode cX12_mend 26 = .ok (.ldc 198, 2) := kDec_at dA272_cX12_mend 18 rfl
theorem dX12_mend_28 : decode cX12_mend 28 = .ok (.if_icmp .le 5, 3) := kDec_at dA272_cX12_mend 19 rfl
theorem dX12_mend_33 : decode cX12_mend 33 = .ok (.iconst (-1), 1) := kDec_at dA272_cX12_mend 20 rfl
theorem dX12_mend_34 : decode cX12_mend 34 = .ok (.istore_n 3, 1) := kDec_at dA272_cX12_mend 21 rfl
theorem dX12_mend_35 : decode cX12_mend 35 = .ok (.iconst 0, 1) := kDec_at dA272_cX12_mend 22 rfl
theorem dX12_mend_36 : decode cX12_mend 36 = .ok (.istore 4, 2) := kDec_at dA272_cX12_mend 23 rfl
set_option maxRecDepth 100000 in
theorem dA273_cX12_mend : kDec cX12_mend [(38, .iconst 0, 1), (39, .istore 5, 2), (41, .iconst 0, 1), (42, .istore 6, 2), (44, .iconst 0, 1), (45, .istore 7, 2), (47, .iconst 1, 1), (48, .istore 8, 2), (50, .iload 8, 2), (52, .iload_n 1, 1), (53, .if_icmp .gt 106, 3), (159, .iload_n 3, 1), (160, .iconst (-1), 1), (161, .if_icmp .eq 25, 3), (186, .iconst (-1), 1), (187, .ireturn, 1), (164, .aload_n 0, 1), (165, .aload_n 0, 1), (166, .getfield 16, 3), (169, .iconst 0, 1), (170, .aload_n 0, 1), (171, .getfield 13, 3), (174, .iconst 0, 1), (175, .iaload, 1)] = true := by decide +kernel
theorem dX12_mend_38 : decode cX12_mend 38 = .ok (.iconst 0, 1) := kDec_at dA273_cX12_mend 0 rfl
theorem dX12_mend_39 : decode cX12_mend 39 = .ok (.istore 5, 2) := kDec_at dA273_cX12_mend 1 rfl
theorem dX12_mend_41 : decode cX12_mend 41 = .ok (.iconst 0, 1) := kDec_at dA273_cX12_mend 2 rfl
theorem dX12_mend_42 : decode cX12_mend 42 = .ok (.istore 6, 2) := kDec_at dA273_cX12_mend 3 rfl
theorem dX12_mend_44 : decode cX12_mend 44 = .ok (.iconst 0, 1) := kDec_at dA273_cX12_mend 4 rfl
theorem dX12_mend_45 : decode cX12_mend 45 = .ok (.istore 7, 2) := kDec_at dA273_cX12_mend 5 rfl
theorem dX12_mend_47 : decode cX12_mend 47 = .ok (.iconst 1, 1) := kDec_at dA273_cX12_mend 6 rfl
theorem dX12_mend_48 : decode cX12_mend 48 = .ok (.istore 8, 2) := kDec_at dA273_cX12_mend 7 rfl
theorem dX12_mend_50 : decode cX12_mend 50 = .ok (.iload 8, 2) := kDec_at dA273_cX12_mend 8 rfl
theorem dX12_mend_52 : decode cX12_mend 52 = .ok (.iload_n 1, 1) := kDec_at dA273_cX12_mend 9 rfl
theorem dX12_mend_53 : decode cX12_mend 53 = .ok (.if_icmp .gt 106, 3) := kDec_at dA273_cX12_mend 10 rfl
theorem dX12_mend_159 : decode cX12_mend 159 = .ok (.iload_n 3, 1) := kDec_at dA273_cX12_mend 11 rfl
theorem dX12_mend_160 : decode cX12_mend 160 = .ok (.iconst (-1), 1) := kDec_at dA273_cX12_mend 12 rfl
theorem dX12_mend_161 : decode cX12_mend 161 = .ok (.if_icmp .eq 25, 3) := kDec_at dA273_cX12_mend 13 rfl
theorem dX12_mend_186 : decode cX12_mend 186 = .ok (.iconst (-1), 1) := kDec_at dA273_cX12_mend 14 rfl
theorem dX12_mend_187 : decode cX12_mend 187 = .ok (.ireturn, 1) := kDec_at dA273_cX12_mend 15 rfl
theorem dX12_mend_164 : decode cX12_mend 164 = .ok (.aload_n 0, 1) := kDec_at dA273_cX12_mend 16 rfl
theorem dX12_mend_165 : decode cX12_mend 165 = .ok (.aload_n 0, 1) := kDec_at dA273_cX12_mend 17 rfl
theorem dX12_mend_166 : decode cX12_mend 166 = .ok (.getfield 16, 3) := kDec_at dA273_cX12_mend 18 rfl
theorem dX12_mend_169 : decode cX12_mend 169 = .ok (.iconst 0, 1) := kDec_at dA273_cX12_mend 19 rfl
theorem dX12_mend_170 : decode cX12_mend 170 = .ok (.aload_n 0, 1) := kDec_at dA273_cX12_mend 20 rfl
theorem dX12_mend_171 : decode cX12_mend 171 = .ok (.getfield 13, 3) := kDec_at dA273_cX12_mend 21 rfl
theorem dX12_mend_174 : decode cX12_mend 174 = .ok (.iconst 0, 1) := kDec_at dA273_cX12_mend 22 rfl
theorem dX12_mend_175 : decode cX12_mend 175 = .ok (.iaload, 1) := kDec_at dA273_cX12_mend 23 rfl
set_option maxRecDepth 20000 in
theorem gX12_costOf__all : wsX12_costOf_.all goodWord = true := by
  unfold wsX12_costOf_
  exact good_c (by decide +kernel) (good_a (good_a ((by decide +kernel)) gX12_clsall) gX12_costOf_all)
set_option maxRecDepth 20000 in
theorem ggX12_mend_X12_costOf_ : GoodIn wsX12_mend wsX12_costOf_ := goodIn_sub (fun _ h => List.mem_cons_of_mem _ (List.mem_append_left _ (List.mem_append_right _ (h)))) gX12_costOf__all
set_option maxRecDepth 20000 in
theorem gX12_mend_X12_costOf_ : GoodIn wsX12_mend (wsV RX12 189 RX12 yX12_costOf_ wsX12_costOf_) := goodIn_app (goodIn_r _ [15, 16, 17, 11] rfl (by decide +kernel)) ggX12_mend_X12_costOf_
set_option maxRecDepth 100000 in
theorem dA274_cX12_mend : kDec cX12_mend [(176, .invokevirtual 189, 3), (179, .iload 6, 2), (181, .isub, 1), (182, .iload_n 2, 1), (183, .if_icmp .ge 5, 3), (188, .aload_n 0, 1), (189, .iload 5, 2), (191, .iload 4, 2), (193, .invokevirtual 186, 3), (196, .pop, 1), (197, .aload_n 0, 1), (198, .aload_n 0, 1), (199, .getfield 64, 3), (202, .aload_n 0, 1), (203, .getfield 135, 3), (206, .invokevirtual 154, 3), (209, .iload_n 3, 1), (210, .ireturn, 1), (56, .aload_n 0, 1), (57, .getfield 161, 3), (60, .ifCond .ne 7, 3), (67, .aload_n 0, 1), (68, .getfield 161, 3), (71, .iload 8, 2)] = true := by decide +kernel
theorem dX12_mend_176 : decode cX12_mend 176 = .ok (.invokevirtual 189, 3) := kDec_at dA274_cX12_mend 0 rfl
theorem dX12_mend_179 : decode cX12_mend 179 = .ok (.iload 6, 2) := kDec_at dA274_cX12_mend 1 rfl
theorem dX12_mend_181 : decode cX12_mend 181 = .ok (.isub, 1) := kDec_at dA274_cX12_mend 2 rfl
theorem dX12_mend_182 : decode cX12_mend 182 = .ok (.iload_n 2, 1) := kDec_at dA274_cX12_mend 3 rfl
theorem dX12_mend_183 : decode cX12_mend 183 = .ok (.if_icmp .ge 5, 3) := kDec_at dA274_cX12_mend 4 rfl
theorem dX12_mend_188 : decode cX12_mend 188 = .ok (.aload_n 0, 1) := kDec_at dA274_cX12_mend 5 rfl
theorem dX12_mend_189 : decode cX12_mend 189 = .ok (.iload 5, 2) := kDec_at dA274_cX12_mend 6 rfl
theorem dX12_mend_191 : decode cX12_mend 191 = .ok (.iload 4, 2) := kDec_at dA274_cX12_mend 7 rfl
theorem dX12_mend_193 : decode cX12_mend 193 = .ok (.invokevirtual 186, 3) := kDec_at dA274_cX12_mend 8 rfl
theorem dX12_mend_196 : decode cX12_mend 196 = .ok (.pop, 1) := kDec_at dA274_cX12_mend 9 rfl
theorem dX12_mend_197 : decode cX12_mend 197 = .ok (.aload_n 0, 1) := kDec_at dA274_cX12_mend 10 rfl
theorem dX12_mend_198 : decode cX12_mend 198 = .ok (.aload_n 0, 1) := kDec_at dA274_cX12_mend 11 rfl
theorem dX12_mend_199 : decode cX12_mend 199 = .ok (.getfield 64, 3) := kDec_at dA274_cX12_mend 12 rfl
theorem dX12_mend_202 : decode cX12_mend 202 = .ok (.aload_n 0, 1) := kDec_at dA274_cX12_mend 13 rfl
theorem dX12_mend_203 : decode cX12_mend 203 = .ok (.getfield 135, 3) := kDec_at dA274_cX12_mend 14 rfl
theorem dX12_mend_206 : decode cX12_mend 206 = .ok (.invokevirtual 154, 3) := kDec_at dA274_cX12_mend 15 rfl
theorem dX12_mend_209 : decode cX12_mend 209 = .ok (.iload_n 3, 1) := kDec_at dA274_cX12_mend 16 rfl
theorem dX12_mend_210 : decode cX12_mend 210 = .ok (.ireturn, 1) := kDec_at dA274_cX12_mend 17 rfl
theorem dX12_mend_56 : decode cX12_mend 56 = .ok (.aload_n 0, 1) := kDec_at dA274_cX12_mend 18 rfl
theorem dX12_mend_57 : decode cX12_mend 57 = .ok (.getfield 161, 3) := kDec_at dA274_cX12_mend 19 rfl
theorem dX12_mend_60 : decode cX12_mend 60 = .ok (.ifCond .ne 7, 3) := kDec_at dA274_cX12_mend 20 rfl
theorem dX12_mend_67 : decode cX12_mend 67 = .ok (.aload_n 0, 1) := kDec_at dA274_cX12_mend 21 rfl
theorem dX12_mend_68 : decode cX12_mend 68 = .ok (.getfield 161, 3) := kDec_at dA274_cX12_mend 22 rfl
theorem dX12_mend_71 : decode cX12_mend 71 = .ok (.iload 8, 2) := kDec_at dA274_cX12_mend 23 rfl
set_option maxRecDepth 20000 in
theorem gX12_makes_all : wsX12_makes.all goodWord = true := by
  unfold wsX12_makes
  exact good_c (by decide +kernel) (good_a (good_a (good_a ((by decide +kernel)) gX12_clsall) gX12_takeText_all) gX12_undoes_all)
set_option maxRecDepth 20000 in
theorem ggX12_mend_X12_makes : GoodIn wsX12_mend wsX12_makes := goodIn_sub (fun _ h => List.mem_cons_of_mem _ (List.mem_append_left _ (List.mem_append_left _ (List.mem_append_right _ (h))))) gX12_makes_all
set_option maxRecDepth 20000 in
theorem gX12_mend_X12_makes : GoodIn wsX12_mend (wsV RX12 186 RX12 yX12_makes wsX12_makes) := goodIn_app (goodIn_r _ [12, 13, 14, 11] rfl (by decide +kernel)) ggX12_mend_X12_makes
set_option maxRecDepth 20000 in
theorem ggX12_mend_X12_become : GoodIn wsX12_mend wsX12_become := goodIn_sub (fun _ h => List.mem_cons_of_mem _ (List.mem_append_right _ (h))) gX12_become_all
set_option maxRecDepth 20000 in
theorem gX12_mend_X12_become : GoodIn wsX12_mend (wsV RX12 154 RX12 yX12_become wsX12_become) := goodIn_app (goodIn_r _ [18, 19, 20, 11] rfl (by decide +kernel)) ggX12_mend_X12_become
set_option maxRecDepth 20000 in
theorem gX12_power_all : wsX12_power.all goodWord = true := by
  unfold wsX12_power
  exact good_c (by decide +kernel) (rfl)
set_option maxRecDepth 20000 in
theorem ggX12_mend_X12_power : GoodIn wsX12_mend wsX12_power := goodIn_sub (fun _ h => List.mem_cons_of_mem _ (List.mem_append_left _ (List.mem_append_left _ (List.mem_append_left _ (List.mem_append_right _ (h)))))) gX12_power_all
set_option maxRecDepth 20000 in
theorem gX12_mend_X12_power : GoodIn wsX12_mend (va_wsS RX12 183 yX12_power wsX12_power) := goodIn_app (goodIn_r _ [9, 10, 11] rfl (by decide +kernel)) ggX12_mend_X12_power
set_option maxRecDepth 100000 in
theorem dA275_cX12_mend : kDec cX12_mend [(73, .invokestatic 183, 3), (76, .istore 9, 2), (78, .iconst 0, 1), (79, .istore 10, 2), (81, .iload 10, 2), (83, .iload 9, 2), (85, .if_icmp .ge 68, 3), (153, .iinc 8 1, 3), (156, .goto (-106), 3), (88, .aload_n 0, 1), (89, .iload 10, 2), (91, .iload 8, 2), (93, .invokevirtual 186, 3), (96, .ifCond .ne 6, 3), (102, .aload_n 0, 1), (103, .aload_n 0, 1), (104, .getfield 64, 3), (107, .iconst 0, 1), (108, .aload_n 0, 1), (109, .getfield 135, 3), (112, .invokevirtual 189, 3), (115, .istore 11, 2), (117, .iload_n 3, 1), (118, .iconst (-1), 1)] = true := by decide +kernel
theorem dX12_mend_73 : decode cX12_mend 73 = .ok (.invokestatic 183, 3) := kDec_at dA275_cX12_mend 0 rfl
theorem dX12_mend_76 : decode cX12_mend 76 = .ok (.istore 9, 2) := kDec_at dA275_cX12_mend 1 rfl
theorem dX12_mend_78 : decode cX12_mend 78 = .ok (.iconst 0, 1) := kDec_at dA275_cX12_mend 2 rfl
theorem dX12_mend_79 : decode cX12_mend 79 = .ok (.istore 10, 2) := kDec_at dA275_cX12_mend 3 rfl
theorem dX12_mend_81 : decode cX12_mend 81 = .ok (.iload 10, 2) := kDec_at dA275_cX12_mend 4 rfl
theorem dX12_mend_83 : decode cX12_mend 83 = .ok (.iload 9, 2) := kDec_at dA275_cX12_mend 5 rfl
theorem dX12_mend_85 : decode cX12_mend 85 = .ok (.if_icmp .ge 68, 3) := kDec_at dA275_cX12_mend 6 rfl
theorem dX12_mend_153 : decode cX12_mend 153 = .ok (.iinc 8 1, 3) := kDec_at dA275_cX12_mend 7 rfl
theorem dX12_mend_156 : decode cX12_mend 156 = .ok (.goto (-106), 3) := kDec_at dA275_cX12_mend 8 rfl
theorem dX12_mend_88 : decode cX12_mend 88 = .ok (.aload_n 0, 1) := kDec_at dA275_cX12_mend 9 rfl
theorem dX12_mend_89 : decode cX12_mend 89 = .ok (.iload 10, 2) := kDec_at dA275_cX12_mend 10 rfl
theorem dX12_mend_91 : decode cX12_mend 91 = .ok (.iload 8, 2) := kDec_at dA275_cX12_mend 11 rfl
theorem dX12_mend_93 : decode cX12_mend 93 = .ok (.invokevirtual 186, 3) := kDec_at dA275_cX12_mend 12 rfl
theorem dX12_mend_96 : decode cX12_mend 96 = .ok (.ifCond .ne 6, 3) := kDec_at dA275_cX12_mend 13 rfl
theorem dX12_mend_102 : decode cX12_mend 102 = .ok (.aload_n 0, 1) := kDec_at dA275_cX12_mend 14 rfl
theorem dX12_mend_103 : decode cX12_mend 103 = .ok (.aload_n 0, 1) := kDec_at dA275_cX12_mend 15 rfl
theorem dX12_mend_104 : decode cX12_mend 104 = .ok (.getfield 64, 3) := kDec_at dA275_cX12_mend 16 rfl
theorem dX12_mend_107 : decode cX12_mend 107 = .ok (.iconst 0, 1) := kDec_at dA275_cX12_mend 17 rfl
theorem dX12_mend_108 : decode cX12_mend 108 = .ok (.aload_n 0, 1) := kDec_at dA275_cX12_mend 18 rfl
theorem dX12_mend_109 : decode cX12_mend 109 = .ok (.getfield 135, 3) := kDec_at dA275_cX12_mend 19 rfl
theorem dX12_mend_112 : decode cX12_mend 112 = .ok (.invokevirtual 189, 3) := kDec_at dA275_cX12_mend 20 rfl
theorem dX12_mend_115 : decode cX12_mend 115 = .ok (.istore 11, 2) := kDec_at dA275_cX12_mend 21 rfl
theorem dX12_mend_117 : decode cX12_mend 117 = .ok (.iload_n 3, 1) := kDec_at dA275_cX12_mend 22 rfl
theorem dX12_mend_118 : decode cX12_mend 118 = .ok (.iconst (-1), 1) := kDec_at dA275_cX12_mend 23 rfl
set_option maxRecDepth 100000 in
theorem dA276_cX12_mend : kDec cX12_mend [(119, .if_icmp .eq 10, 3), (129, .iload 7, 2), (131, .istore_n 3, 1), (132, .iload 8, 2), (134, .istore 4, 2), (136, .iload 10, 2), (138, .istore 5, 2), (140, .iload 11, 2), (142, .istore 6, 2), (144, .iinc 7 1, 3), (147, .iinc 10 1, 3), (150, .goto (-69), 3), (122, .iload 11, 2), (124, .iload 6, 2), (126, .if_icmp .ge 18, 3), (99, .goto 48, 3), (63, .iconst 0, 1), (64, .goto 12, 3)] = true := by decide +kernel
theorem dX12_mend_119 : decode cX12_mend 119 = .ok (.if_icmp .eq 10, 3) := kDec_at dA276_cX12_mend 0 rfl
theorem dX12_mend_129 : decode cX12_mend 129 = .ok (.iload 7, 2) := kDec_at dA276_cX12_mend 1 rfl
theorem dX12_mend_131 : decode cX12_mend 131 = .ok (.istore_n 3, 1) := kDec_at dA276_cX12_mend 2 rfl
theorem dX12_mend_132 : decode cX12_mend 132 = .ok (.iload 8, 2) := kDec_at dA276_cX12_mend 3 rfl
theorem dX12_mend_134 : decode cX12_mend 134 = .ok (.istore 4, 2) := kDec_at dA276_cX12_mend 4 rfl
theorem dX12_mend_136 : decode cX12_mend 136 = .ok (.iload 10, 2) := kDec_at dA276_cX12_mend 5 rfl
theorem dX12_mend_138 : decode cX12_mend 138 = .ok (.istore 5, 2) := kDec_at dA276_cX12_mend 6 rfl
theorem dX12_mend_140 : decode cX12_mend 140 = .ok (.iload 11, 2) := kDec_at dA276_cX12_mend 7 rfl
theorem dX12_mend_142 : decode cX12_mend 142 = .ok (.istore 6, 2) := kDec_at dA276_cX12_mend 8 rfl
theorem dX12_mend_144 : decode cX12_mend 144 = .ok (.iinc 7 1, 3) := kDec_at dA276_cX12_mend 9 rfl
theorem dX12_mend_147 : decode cX12_mend 147 = .ok (.iinc 10 1, 3) := kDec_at dA276_cX12_mend 10 rfl
theorem dX12_mend_150 : decode cX12_mend 150 = .ok (.goto (-69), 3) := kDec_at dA276_cX12_mend 11 rfl
theorem dX12_mend_122 : decode cX12_mend 122 = .ok (.iload 11, 2) := kDec_at dA276_cX12_mend 12 rfl
theorem dX12_mend_124 : decode cX12_mend 124 = .ok (.iload 6, 2) := kDec_at dA276_cX12_mend 13 rfl
theorem dX12_mend_126 : decode cX12_mend 126 = .ok (.if_icmp .ge 18, 3) := kDec_at dA276_cX12_mend 14 rfl
theorem dX12_mend_99 : decode cX12_mend 99 = .ok (.goto 48, 3) := kDec_at dA276_cX12_mend 15 rfl
theorem dX12_mend_63 : decode cX12_mend 63 = .ok (.iconst 0, 1) := kDec_at dA276_cX12_mend 16 rfl
theorem dX12_mend_64 : decode cX12_mend 64 = .ok (.goto 12, 3) := kDec_at dA276_cX12_mend 17 rfl

end
