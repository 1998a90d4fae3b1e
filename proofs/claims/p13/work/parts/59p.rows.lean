/-! rows of harms: harm h undone (UC: the class's, UR: the reference's), one behind another (UNL), and the book of all rows (rGE) -/
def UC (H1 H2 f41 f42 f43 f51 f52 f53 : Nat → Int32) (h n : Nat) (f : Nat → Int32) (c : Nat) (f' : Nat → Int32) : Prop := HM (H2 h) (H1 h) f41 f51 (Bc (H2 h) f42 f43 f52 f53) n f c f'
def UR (e1 e2 eL eB : Nat → Int32) (h n : Nat) (f : Nat → Int32) (c : Nat) (f' : Nat → Int32) : Prop := HM (e2 h) (e1 h) (fun k => eL k) (fun k => eL (256 + k)) (Br (e2 h) eB) n f c f'
def okU (U : Nat → Nat → (Nat → Int32) → Nat → (Nat → Int32) → Prop) : Prop :=
  (∀ (h n c c' : Nat) (f f1 f2 : Nat → Int32), prg n 0 65535 f → U h n f c f1 → U h n f c' f2 → c = c' ∧ ∀ i, i < c → f1 i = f2 i) ∧
  (∀ (h n c : Nat) (f g f' : Nat → Int32), (∀ i, i < n → f i = g i) → U h n f c f' → U h n g c f') ∧
  (∀ (h n c : Nat) (f f' : Nat → Int32), prg n 0 65535 f → U h n f c f' → c ≤ 300 ∧ prg c 0 65535 f') ∧
  ∀ (h n c : Nat) (f f1 f2 : Nat → Int32), (∀ i, i < c → f2 i = f1 i) → U h n f c f1 → U h n f c f2
theorem HM_c {a b : Int32} {L4 L5 : Nat → Int32} {Bf : Int32 → Int32} {n c : Nat} {f f' : Nat → Int32} (h : HM a b L4 L5 Bf n f c f') : c ≤ 300 := by
  obtain ⟨m, g, a1, a2, a3, a4, a5⟩ := h
  exact a4
theorem okU_C {H1 H2 f41 f42 f43 f51 f52 f53 : Nat → Int32} (hB : ∀ cd : Int32, okB (Bc cd f42 f43 f52 f53)) (h4 : prg 256 (-1) 65535 f41) (h5 : prg 256 (-1) 65535 f51) : okU (UC H1 H2 f41 f42 f43 f51 f52 f53) :=
  ⟨fun _ _ _ _ _ _ _ hf a b => HM_u hf (hB _) a b, fun _ _ _ _ _ _ e a => HM_g a e, fun _ _ _ _ _ hf a => ⟨HM_c a, HM_r hf (hB _) h4 h5 a⟩, fun _ _ _ _ _ _ e a => HM_f a e⟩
theorem okU_R {e1 e2 eL eB : Nat → Int32} (gB : rg (-1) 255 eB) (gL : rg (-1) 65535 eL) : okU (UR e1 e2 eL eB) :=
  ⟨fun _ _ _ _ _ _ _ hf a b => HM_u hf (okB_r gB) a b, fun _ _ _ _ _ _ e a => HM_g a e, fun _ _ _ _ _ hf a => ⟨HM_c a, HM_r hf (okB_r gB) (rg_prg gL) (rg_L5 gL) a⟩, fun _ _ _ _ _ _ e a => HM_f a e⟩
theorem okB_C {l4 l5 a : Int32} {f41 f42 f43 f51 f52 f53 eL eB eD : Nat → Int32} (R4 : TR 0 l4 f41 f42 f43 eL eB eD) (R5 : TR 1 l5 f51 f52 f53 eL eB eD) (gB : rg (-1) 255 eB) : okB (Bc a f42 f43 f52 f53) := by
  intro x h1 h2
  unfold Bc
  split
  · rw [TR_bf R4 h1 h2]; exact gB _
  · rw [TR_bf R5 h1 h2]; exact gB _
theorem UCR {l4 l5 : Int32} {H1 H2 e1 e2 f41 f42 f43 f51 f52 f53 eL eB eD f f' : Nat → Int32} {h n c : Nat} (R4 : TR 0 l4 f41 f42 f43 eL eB eD) (R5 : TR 1 l5 f51 f52 f53 eL eB eD) (gB : rg (-1) 255 eB) (q1 : H1 h = e1 h) (q2 : H2 h = e2 h) (hf : prg n 0 65535 f) : UC H1 H2 f41 f42 f43 f51 f52 f53 h n f c f' ↔ UR e1 e2 eL eB h n f c f' := by
  unfold UC UR
  rw [q1, q2]
  constructor
  · intro a
    exact HM_t hf (okB_C R4 R5 gB) (fun j hj => rfl) (TR_L4 R4) (TR_L5 R5) (fun x h1 h2 => enc_eq R4 R5 h1 h2) a
  · intro a
    exact HM_t hf (okB_r gB) (fun j hj => rfl) (fun k hk => (TR_L4 R4 k hk).symm) (fun k hk => (TR_L5 R5 k hk).symm) (fun x h1 h2 => (enc_eq R4 R5 h1 h2).symm) a
/-- what takeOff and undoes answer -/
def F_to (U : Nat → Nat → (Nat → Int32) → Nat → (Nat → Int32) → Prop) (r l : Int32) (f' : Nat → Int32) (h : Nat) (n : Int) (f : Nat → Int32) : Prop := (r = 1 ∧ ∃ c : Nat, l.toInt = c ∧ U h n.toNat f c f') ∨ (r = 0 ∧ ∀ (c : Nat) (f2 : Nat → Int32), ¬ U h n.toNat f c f2)
theorem to_1 {U : Nat → Nat → (Nat → Int32) → Nat → (Nat → Int32) → Prop} {r l : Int32} {f f' : Nat → Int32} {h : Nat} {n : Int} (a : F_to U r l f' h n f) (e : ¬ r.toInt = 0) : ∃ c : Nat, l.toInt = c ∧ U h n.toNat f c f' := a.elim (fun z => z.2) (fun z => absurd (by rw [z.1]; rfl) e)
theorem to_0 {U : Nat → Nat → (Nat → Int32) → Nat → (Nat → Int32) → Prop} {r l : Int32} {f f' : Nat → Int32} {h : Nat} {n : Int} (a : F_to U r l f' h n f) (e : r.toInt = 0) : ∀ (c : Nat) (f2 : Nat → Int32), ¬ U h n.toNat f c f2 := by
  rcases a with a | a
  · rw [a.1] at e; exact absurd e (by decide)
  · exact a.2
theorem to_1n {U : Nat → Nat → (Nat → Int32) → Nat → (Nat → Int32) → Prop} {r l : Int32} {f f' : Nat → Int32} {h : Nat} {n : Int} (a : F_to U r l f' h n f) (e : ¬ r.toInt = 0) : U h n.toNat f l.toInt.toNat f' := by
  obtain ⟨c, c1, c2⟩ := to_1 a e
  have : l.toInt.toNat = c := by omega
  rw [this]; exact c2
/-- harms undone one behind another -/
def UNL (U : Nat → Nat → (Nat → Int32) → Nat → (Nat → Int32) → Prop) : List Nat → Nat → (Nat → Int32) → Nat → (Nat → Int32) → Prop
  | [], n, f, c, f' => c = n ∧ ∀ i, i < c → f' i = f i
  | h :: t, n, f, c, f' => ∃ (m : Nat) (g : Nat → Int32), U h n f m g ∧ UNL U t m g c f'
section RWS
variable {U V : Nat → Nat → (Nat → Int32) → Nat → (Nat → Int32) → Prop}
theorem UNL_g (hU : okU U) : ∀ (l : List Nat) (n c : Nat) (f g f' : Nat → Int32), (∀ i, i < n → f i = g i) → UNL U l n f c f' → UNL U l n g c f'
  | [], n, c, f, g, f', e, h => ⟨h.1, fun i hi => (h.2 i hi).trans (e i (by have := h.1; omega))⟩
  | _ :: _, n, c, f, g, f', e, ⟨m, g1, a1, a2⟩ => ⟨m, g1, hU.2.1 _ _ _ _ _ _ e a1, a2⟩
theorem UNL_f (hU : okU U) : ∀ (l : List Nat) (n c : Nat) (f f1 f2 : Nat → Int32), (∀ i, i < c → f2 i = f1 i) → UNL U l n f c f1 → UNL U l n f c f2
  | [], n, c, f, f1, f2, e, h => ⟨h.1, fun i hi => (e i hi).trans (h.2 i hi)⟩
  | _ :: t, n, c, f, f1, f2, e, ⟨m, g1, a1, a2⟩ => ⟨m, g1, a1, UNL_f hU t _ _ _ _ _ e a2⟩
theorem UNL_cons (hU : okU U) {h n m c : Nat} {t : List Nat} {f g f' : Nat → Int32} (hf : prg n 0 65535 f) (h1 : U h n f m g) : UNL U (h :: t) n f c f' ↔ UNL U t m g c f' := by
  constructor
  · rintro ⟨m', g', a, b⟩
    obtain ⟨q1, q2⟩ := hU.1 _ _ _ _ _ _ _ hf a h1
    subst q1
    exact UNL_g hU _ _ _ _ _ _ q2 b
  · exact fun b => ⟨m, g, h1, b⟩
theorem UNL_no {h n : Nat} {t : List Nat} {f : Nat → Int32} (h1 : ∀ (m : Nat) (g : Nat → Int32), ¬ U h n f m g) : ∀ c f', ¬ UNL U (h :: t) n f c f' := fun _ _ ⟨m, g, a, _⟩ => h1 m g a
theorem UNL_r (hU : okU U) : ∀ (l : List Nat) (n c : Nat) (f f' : Nat → Int32), n ≤ 300 → prg n 0 65535 f → UNL U l n f c f' → c ≤ 300 ∧ prg c 0 65535 f'
  | [], n, c, f, f', hn, hf, h => ⟨by have := h.1; omega, fun j hj => by rw [h.2 j (by omega)]; exact hf j (by have := h.1; omega)⟩
  | _ :: t, n, c, f, f', hn, hf, ⟨m, g1, a1, a2⟩ => by
    obtain ⟨q1, q2⟩ := hU.2.2.1 _ _ _ _ _ hf a1
    exact UNL_r hU t _ _ _ _ q1 q2 a2
theorem UNL_u (hU : okU U) : ∀ (l : List Nat) (n c c' : Nat) (f f1 f2 : Nat → Int32), prg n 0 65535 f → UNL U l n f c f1 → UNL U l n f c' f2 → c = c' ∧ ∀ i, i < c → f1 i = f2 i
  | [], n, c, c', f, f1, f2, _, h, h' => ⟨by rw [h.1, h'.1], fun i hi => (h.2 i hi).trans (h'.2 i (by have := h.1; have := h'.1; omega)).symm⟩
  | _ :: t, n, c, c', f, f1, f2, hf, ⟨m, g1, a1, a2⟩, h' => by
    have q := (hU.2.2.1 _ _ _ _ _ hf a1).2
    exact UNL_u hU t _ _ _ _ _ _ q a2 ((UNL_cons hU hf a1).mp h')
theorem UNL_iff (hU : okU U) : ∀ (l : List Nat) (n c : Nat) (f f' : Nat → Int32), (∀ h, h ∈ l → ∀ (n c : Nat) (f f' : Nat → Int32), prg n 0 65535 f → (U h n f c f' ↔ V h n f c f')) → prg n 0 65535 f → (UNL U l n f c f' ↔ UNL V l n f c f')
  | [], _, _, _, _, _, _ => Iff.rfl
  | h :: t, n, c, f, f', e, hf => by
    constructor
    · rintro ⟨m, g, a, b⟩
      have q := (hU.2.2.1 _ _ _ _ _ hf a).2
      exact ⟨m, g, (e h List.mem_cons_self _ _ _ _ hf).mp a, (UNL_iff hU t _ _ _ _ (fun h' hh => e h' (List.mem_cons_of_mem _ hh)) q).mp b⟩
    · rintro ⟨m, g, a, b⟩
      have a' := (e h List.mem_cons_self _ _ _ _ hf).mpr a
      have q := (hU.2.2.1 _ _ _ _ _ hf a').2
      exact ⟨m, g, a', (UNL_iff hU t _ _ _ _ (fun h' hh => e h' (List.mem_cons_of_mem _ hh)) q).mpr b⟩
/-- the harms of a row told by its number: the last one first -/
def digs (z : Nat) : Nat → Nat → List Nat
  | 0, _ => []
  | k + 1, c => (c % z) :: digs z k (c / z)
theorem digs_lt {z : Nat} (hz : 1 ≤ z) : ∀ (k c h : Nat), h ∈ digs z k c → h < z
  | 0, _, _, hh => by cases hh
  | k + 1, c, h, hh => by
    rcases List.mem_cons.mp hh with e | e
    · rw [e]; exact Nat.mod_lt _ (by omega)
    · exact digs_lt hz k _ h e
def roff (z : Nat) : Nat → Nat
  | 0 => 0
  | 1 => 0
  | 2 => z
  | 3 => z + z * z
  | _ => z + z * z + z * z * z
def rpz (z : Nat) : Nat → Nat
  | 0 => 1
  | 1 => z
  | 2 => z * z
  | _ => z * z * z
theorem rz7 {z : Nat} (h : z ≤ 6) : z = 0 ∨ z = 1 ∨ z = 2 ∨ z = 3 ∨ z = 4 ∨ z = 5 ∨ z = 6 := by omega
theorem rk3 {k : Nat} (h1 : 1 ≤ k) (h : k ≤ 3) : k = 1 ∨ k = 2 ∨ k = 3 := by omega
theorem roff_s {z k : Nat} (h1 : 1 ≤ k) (h : k ≤ 3) : roff z (k + 1) = roff z k + rpz z k := by
  rcases rk3 h1 h with e | e | e <;> subst e
  · show z = 0 + z; omega
  · rfl
  · rfl
theorem roff_4 {z : Nat} (hz : z ≤ 6) : roff z 4 ≤ 258 := by
  rcases rz7 hz with e | e | e | e | e | e | e <;> subst e <;> decide
theorem roff_m {z k k' : Nat} (h1 : 1 ≤ k) (h : k ≤ k') (h' : k' ≤ 4) : roff z k ≤ roff z k' := by
  have a : roff z 1 ≤ roff z 2 := by show 0 ≤ _; omega
  have b : roff z 2 ≤ roff z 3 := Nat.le_add_right _ _
  have c : roff z 3 ≤ roff z 4 := Nat.le_add_right _ _
  have k4 : k = 1 ∨ k = 2 ∨ k = 3 ∨ k = 4 := by omega
  have k4' : k' = 1 ∨ k' = 2 ∨ k' = 3 ∨ k' = 4 := by omega
  rcases k4 with e | e | e | e <;> rcases k4' with e' | e' | e' | e' <;> subst e <;> subst e' <;> omega
/-- what stands at a place of the book -/
def rEN (T : Int32 → Int32 → Int32) (p : Nat) (M : Nat → (Nat → Int32) → Prop) (h1 h2 h3 : Int) (R1 R2 R3 : Nat → Int32) : Prop := (∃ (c : Nat) (f' : Nat → Int32), M c f' ∧ (R1 p).toInt = cT T c f' ∧ (R2 p).toInt = c ∧ (R3 (3 * p)).toInt = h1 ∧ (R3 (3 * p + 1)).toInt = h2 ∧ (R3 (3 * p + 2)).toInt = h3 ∧ 0 ≤ (R1 p).toInt) ∨ ((∀ c f', ¬ M c f') ∧ R1 p = -1)
/-- the book with some rows done: S1, S2, S3 say which -/
def rF1 (U : Nat → Nat → (Nat → Int32) → Nat → (Nat → Int32) → Prop) (T : Int32 → Int32 → Int32) (z n : Nat) (f : Nat → Int32) (S1 : Nat → Prop) (S2 : Nat → Nat → Prop) (S3 : Nat → Nat → Nat → Prop) (R1 R2 R3 : Nat → Int32) : Prop :=
  (∀ a : Nat, a < z → (S1 a → rEN T a (UNL U [a] n f) a (-1) (-1) R1 R2 R3) ∧ (¬ S1 a → R1 a = -1)) ∧
  (∀ a b : Nat, a < z → b < z → (S2 a b → rEN T (z + b * z + a) (UNL U [a, b] n f) b a (-1) R1 R2 R3) ∧ (¬ S2 a b → R1 (z + b * z + a) = -1)) ∧
  (∀ a b c : Nat, a < z → b < z → c < z → (S3 a b c → rEN T (z + z * z + (c * z + b) * z + a) (UNL U [a, b, c] n f) c b a R1 R2 R3) ∧ (¬ S3 a b c → R1 (z + z * z + (c * z + b) * z + a) = -1)) ∧
  ∀ p : Nat, z + z * z + z * z * z ≤ p → p < 258 → R1 p = -1
theorem rF1_ch {T : Int32 → Int32 → Int32} {z n : Nat} {f : Nat → Int32} {S1 S1' : Nat → Prop} {S2 S2' : Nat → Nat → Prop} {S3 S3' : Nat → Nat → Nat → Prop} {R1 R2 R3 : Nat → Int32} (h : rF1 U T z n f S1 S2 S3 R1 R2 R3)
    (c1 : ∀ a, a < z → (S1 a → S1' a) ∧ (S1' a → S1 a ∨ ∀ c f', ¬ UNL U [a] n f c f'))
    (c2 : ∀ a b, a < z → b < z → (S2 a b → S2' a b) ∧ (S2' a b → S2 a b ∨ ∀ c f', ¬ UNL U [a, b] n f c f'))
    (c3 : ∀ a b c, a < z → b < z → c < z → (S3 a b c → S3' a b c) ∧ (S3' a b c → S3 a b c ∨ ∀ c2 f', ¬ UNL U [a, b, c] n f c2 f')) : rF1 U T z n f S1' S2' S3' R1 R2 R3 := by
  refine ⟨fun a ha => ⟨fun s => ?_, fun s => (h.1 a ha).2 (fun w => s ((c1 a ha).1 w))⟩, fun a b ha hb => ⟨fun s => ?_, fun s => (h.2.1 a b ha hb).2 (fun w => s ((c2 a b ha hb).1 w))⟩, fun a b c ha hb hc => ⟨fun s => ?_, fun s => (h.2.2.1 a b c ha hb hc).2 (fun w => s ((c3 a b c ha hb hc).1 w))⟩, h.2.2.2⟩
  · by_cases w : S1 a
    · exact (h.1 a ha).1 w
    · exact Or.inr ⟨((c1 a ha).2 s).resolve_left w, (h.1 a ha).2 w⟩
  · by_cases w : S2 a b
    · exact (h.2.1 a b ha hb).1 w
    · exact Or.inr ⟨((c2 a b ha hb).2 s).resolve_left w, (h.2.1 a b ha hb).2 w⟩
  · by_cases w : S3 a b c
    · exact (h.2.2.1 a b c ha hb hc).1 w
    · exact Or.inr ⟨((c3 a b c ha hb hc).2 s).resolve_left w, (h.2.2.1 a b c ha hb hc).2 w⟩
/-- a row is written at the place p -/
def rWP (p : Nat) (x y u v w : Int32) (R1 R1' R2 R2' R3 R3' : Nat → Int32) : Prop := R1' = upd R1 p x ∧ R2' = upd R2 p y ∧ R3' = upd (upd (upd R3 (3 * p) u) (3 * p + 1) v) (3 * p + 2) w
theorem rWP_o {p q : Nat} {x y u v w : Int32} {R1 R1' R2 R2' R3 R3' : Nat → Int32} (h : rWP p x y u v w R1 R1' R2 R2' R3 R3') (hq : q ≠ p) : R1' q = R1 q ∧ R2' q = R2 q ∧ R3' (3 * q) = R3 (3 * q) ∧ R3' (3 * q + 1) = R3 (3 * q + 1) ∧ R3' (3 * q + 2) = R3 (3 * q + 2) := by
  obtain ⟨h1, h2, h3⟩ := h
  refine ⟨by rw [h1, pk_un hq], by rw [h2, pk_un hq], ?_, ?_, ?_⟩
  · rw [h3, pk_un (by omega), pk_un (by omega), pk_un (by omega)]
  · rw [h3, pk_un (by omega), pk_un (by omega), pk_un (by omega)]
  · rw [h3, pk_un (by omega), pk_un (by omega), pk_un (by omega)]
theorem rWP_s {p : Nat} {x y u v w : Int32} {R1 R1' R2 R2' R3 R3' : Nat → Int32} (h : rWP p x y u v w R1 R1' R2 R2' R3 R3') : R1' p = x ∧ R2' p = y ∧ R3' (3 * p) = u ∧ R3' (3 * p + 1) = v ∧ R3' (3 * p + 2) = w := by
  obtain ⟨h1, h2, h3⟩ := h
  refine ⟨by rw [h1, pk_us], by rw [h2, pk_us], ?_, ?_, ?_⟩
  · rw [h3, pk_un (by omega), pk_un (by omega), pk_us]
  · rw [h3, pk_un (by omega), pk_us]
  · rw [h3, pk_us]
theorem rEN_o {T : Int32 → Int32 → Int32} {p q : Nat} {x y u v w : Int32} {R1 R1' R2 R2' R3 R3' : Nat → Int32} {M : Nat → (Nat → Int32) → Prop} {h1 h2 h3 : Int} (h : rWP p x y u v w R1 R1' R2 R2' R3 R3') (hq : q ≠ p) (a : rEN T q M h1 h2 h3 R1 R2 R3) : rEN T q M h1 h2 h3 R1' R2' R3' := by
  obtain ⟨o1, o2, o3, o4, o5⟩ := rWP_o h hq
  unfold rEN
  rw [o1, o2, o3, o4, o5]
  exact a
theorem rEN_s {T : Int32 → Int32 → Int32} {p c : Nat} {x y u v w : Int32} {f' R1 R1' R2 R2' R3 R3' : Nat → Int32} {M : Nat → (Nat → Int32) → Prop} {h1 h2 h3 : Int} (h : rWP p x y u v w R1 R1' R2 R2' R3 R3') (hM : M c f') (hx : x.toInt = cT T c f') (hx0 : 0 ≤ x.toInt) (hy : y.toInt = c) (hu : u.toInt = h1) (hv : v.toInt = h2) (hw : w.toInt = h3) : rEN T p M h1 h2 h3 R1' R2' R3' := by
  obtain ⟨o1, o2, o3, o4, o5⟩ := rWP_s h
  exact Or.inl ⟨c, f', hM, by rw [o1]; exact hx, by rw [o2]; exact hy, by rw [o3]; exact hu, by rw [o4]; exact hv, by rw [o5]; exact hw, by rw [o1]; exact hx0⟩
theorem rp_12 {z a a' b' : Nat} (ha : a < z) : a ≠ z + b' * z + a' := by omega
theorem rp_23 {z a b a' b' c' : Nat} (hz : z ≤ 6) (ha : a < z) (hb : b < z) : z + b * z + a ≠ z + z * z + (c' * z + b') * z + a' := by
  rcases rz7 hz with e | e | e | e | e | e | e <;> subst e <;> omega
theorem rp_13 {z a a' b' c' : Nat} (ha : a < z) : a ≠ z + z * z + (c' * z + b') * z + a' := by omega
theorem rp_22 {z a b a' b' : Nat} (hz : z ≤ 6) (ha : a < z) (hb : b < z) (ha' : a' < z) (hb' : b' < z) (h : z + b * z + a = z + b' * z + a') : a = a' ∧ b = b' := by
  rcases rz7 hz with e | e | e | e | e | e | e <;> subst e <;> omega
theorem rp_33 {z a b c a' b' c' : Nat} (hz : z ≤ 6) (ha : a < z) (hb : b < z) (hc : c < z) (ha' : a' < z) (hb' : b' < z) (hc' : c' < z) (h : z + z * z + (c * z + b) * z + a = z + z * z + (c' * z + b') * z + a') : a = a' ∧ b = b' ∧ c = c' := by
  rcases rz7 hz with e | e | e | e | e | e | e <;> subst e <;> omega
theorem rp_1e {z a p : Nat} (ha : a < z) (hp : z + z * z + z * z * z ≤ p) : p ≠ a := by omega
theorem rp_2e {z a b p : Nat} (hz : z ≤ 6) (ha : a < z) (hb : b < z) (hp : z + z * z + z * z * z ≤ p) : p ≠ z + b * z + a := by
  rcases rz7 hz with e | e | e | e | e | e | e <;> subst e <;> omega
theorem rp_3e {z a b c p : Nat} (hz : z ≤ 6) (ha : a < z) (hb : b < z) (hc : c < z) (hp : z + z * z + z * z * z ≤ p) : p ≠ z + z * z + (c * z + b) * z + a := by
  rcases rz7 hz with e | e | e | e | e | e | e <;> subst e <;> omega
/-- the book while it is made: by the numbers of its loops -/
def rG1 (U : Nat → Nat → (Nat → Int32) → Nat → (Nat → Int32) → Prop) (T : Int32 → Int32 → Int32) (z n : Nat) (f : Nat → Int32) (nn l1 la mi mj fi : Int) (R1 R2 R3 : Nat → Int32) : Prop :=
  rF1 U T z n f (fun a => (a : Int) < l1) (fun a b => 1 < nn ∧ ((a : Int) < la ∨ ((a : Int) = la ∧ (b : Int) < mi))) (fun a b c => 2 < nn ∧ ((a : Int) < la ∨ ((a : Int) = la ∧ ((b : Int) < mj ∨ ((b : Int) = mj ∧ (c : Int) < fi))))) R1 R2 R3
theorem rG1_0 {T : Int32 → Int32 → Int32} {z n : Nat} {f : Nat → Int32} {nn l0 : Int} {R1 R2 R3 : Nat → Int32} (hz : z ≤ 6) (h0 : l0 = 0) (h : ∀ j : Nat, (j : Int) < 258 → R1 j = -1) : rG1 U T z n f nn l0 l0 0 0 0 R1 R2 R3 := by
  subst h0
  refine ⟨fun a ha => ⟨fun s => ?_, fun _ => h a (by omega)⟩, fun a b ha hb => ⟨fun s => ?_, fun _ => h _ ?_⟩, fun a b c ha hb hc => ⟨fun s => ?_, fun _ => h _ ?_⟩, fun p _ hp => h p (by omega)⟩
  · exact absurd s (by show ¬ (a : Int) < 0; omega)
  · exact absurd s (by show ¬ (1 < nn ∧ ((a : Int) < 0 ∨ ((a : Int) = 0 ∧ (b : Int) < 0))); omega)
  · rcases rz7 hz with e | e | e | e | e | e | e <;> subst e <;> omega
  · exact absurd s (by show ¬ (2 < nn ∧ ((a : Int) < 0 ∨ ((a : Int) = 0 ∧ ((b : Int) < 0 ∨ ((b : Int) = 0 ∧ (c : Int) < 0))))); omega)
  · rcases rz7 hz with e | e | e | e | e | e | e <;> subst e <;> omega
theorem rG1_f1 {T : Int32 → Int32 → Int32} {z n a0 : Nat} {f : Nat → Int32} {nn la la' : Int} {R1 R2 R3 : Nat → Int32} (h : rG1 U T z n f nn la la 0 0 0 R1 R2 R3) (ea : (a0 : Int) = la) (e' : la' = la + 1) (hno : ∀ (c : Nat) (f2 : Nat → Int32), ¬ U a0 n f c f2) : rG1 U T z n f nn la' la' 0 0 0 R1 R2 R3 := by
  have k : ∀ (t : List Nat) (a : Nat), (a : Int) = la → ∀ c f', ¬ UNL U (a :: t) n f c f' := fun t a e => by
    have e2 : a = a0 := by omega
    rw [e2]; exact UNL_no hno
  refine rF1_ch h (fun a ha => ⟨fun s => ?_, fun s => ?_⟩) (fun a b ha hb => ⟨fun s => ?_, fun s => ?_⟩) (fun a b c ha hb hc => ⟨fun s => ?_, fun s => ?_⟩)
  · show (a : Int) < la'; have s : (a : Int) < la := s; omega
  · have s : (a : Int) < la' := s
    by_cases w : (a : Int) = la
    · exact Or.inr (k _ a w)
    · exact Or.inl (by show (a : Int) < la; omega)
  · have s : 1 < nn ∧ ((a : Int) < la ∨ ((a : Int) = la ∧ (b : Int) < 0)) := s
    show 1 < nn ∧ ((a : Int) < la' ∨ ((a : Int) = la' ∧ (b : Int) < 0)); omega
  · have s : 1 < nn ∧ ((a : Int) < la' ∨ ((a : Int) = la' ∧ (b : Int) < 0)) := s
    by_cases w : (a : Int) = la
    · exact Or.inr (k _ a w)
    · exact Or.inl (by show 1 < nn ∧ ((a : Int) < la ∨ ((a : Int) = la ∧ (b : Int) < 0)); omega)
  · have s : 2 < nn ∧ ((a : Int) < la ∨ ((a : Int) = la ∧ ((b : Int) < 0 ∨ ((b : Int) = 0 ∧ (c : Int) < 0)))) := s
    show 2 < nn ∧ ((a : Int) < la' ∨ ((a : Int) = la' ∧ ((b : Int) < 0 ∨ ((b : Int) = 0 ∧ (c : Int) < 0)))); omega
  · have s : 2 < nn ∧ ((a : Int) < la' ∨ ((a : Int) = la' ∧ ((b : Int) < 0 ∨ ((b : Int) = 0 ∧ (c : Int) < 0)))) := s
    by_cases w : (a : Int) = la
    · exact Or.inr (k _ a w)
    · exact Or.inl (by show 2 < nn ∧ ((a : Int) < la ∨ ((a : Int) = la ∧ ((b : Int) < 0 ∨ ((b : Int) = 0 ∧ (c : Int) < 0)))); omega)
theorem rF1_w {T : Int32 → Int32 → Int32} {z n p : Nat} {f : Nat → Int32} {S1 S1' : Nat → Prop} {S2 S2' : Nat → Nat → Prop} {S3 S3' : Nat → Nat → Nat → Prop} {x y u v w : Int32} {R1 R1' R2 R2' R3 R3' : Nat → Int32} (h : rF1 U T z n f S1 S2 S3 R1 R2 R3) (hw : rWP p x y u v w R1 R1' R2 R2' R3 R3')
    (c1 : ∀ a, a < z → (a ≠ p ∧ (S1' a ↔ S1 a)) ∨ (a = p ∧ S1' a ∧ rEN T a (UNL U [a] n f) a (-1) (-1) R1' R2' R3'))
    (c2 : ∀ a b, a < z → b < z → (z + b * z + a ≠ p ∧ (S2' a b ↔ S2 a b)) ∨ (z + b * z + a = p ∧ S2' a b ∧ rEN T (z + b * z + a) (UNL U [a, b] n f) b a (-1) R1' R2' R3'))
    (c3 : ∀ a b c, a < z → b < z → c < z → (z + z * z + (c * z + b) * z + a ≠ p ∧ (S3' a b c ↔ S3 a b c)) ∨ (z + z * z + (c * z + b) * z + a = p ∧ S3' a b c ∧ rEN T (z + z * z + (c * z + b) * z + a) (UNL U [a, b, c] n f) c b a R1' R2' R3'))
    (c4 : ∀ q, z + z * z + z * z * z ≤ q → q ≠ p) : rF1 U T z n f S1' S2' S3' R1' R2' R3' := by
  refine ⟨fun a ha => ?_, fun a b ha hb => ?_, fun a b c ha hb hc => ?_, fun q h1 h2 => by rw [(rWP_o hw (c4 q h1)).1]; exact h.2.2.2 q h1 h2⟩
  · rcases c1 a ha with ⟨q1, q2⟩ | ⟨q1, q2, q3⟩
    · exact ⟨fun s => rEN_o hw q1 ((h.1 a ha).1 (q2.mp s)), fun s => by rw [(rWP_o hw q1).1]; exact (h.1 a ha).2 (fun w => s (q2.mpr w))⟩
    · exact ⟨fun _ => q3, fun s => absurd q2 s⟩
  · rcases c2 a b ha hb with ⟨q1, q2⟩ | ⟨q1, q2, q3⟩
    · exact ⟨fun s => rEN_o hw q1 ((h.2.1 a b ha hb).1 (q2.mp s)), fun s => by rw [(rWP_o hw q1).1]; exact (h.2.1 a b ha hb).2 (fun w => s (q2.mpr w))⟩
    · exact ⟨fun _ => q3, fun s => absurd q2 s⟩
  · rcases c3 a b c ha hb hc with ⟨q1, q2⟩ | ⟨q1, q2, q3⟩
    · exact ⟨fun s => rEN_o hw q1 ((h.2.2.1 a b c ha hb hc).1 (q2.mp s)), fun s => by rw [(rWP_o hw q1).1]; exact (h.2.2.1 a b c ha hb hc).2 (fun w => s (q2.mpr w))⟩
    · exact ⟨fun _ => q3, fun s => absurd q2 s⟩
theorem rG1_w1 {T : Int32 → Int32 → Int32} {z n c a0 p : Nat} {f f' : Nat → Int32} {nn la la' : Int} {x y u v w : Int32} {R1 R1' R2 R2' R3 R3' : Nat → Int32} (h : rG1 U T z n f nn la la 0 0 0 R1 R2 R3) (hz : z ≤ 6) (ha0 : a0 < z) (ea : (a0 : Int) = la) (e' : la' = la + 1) (ep : p = a0) (hw : rWP p x y u v w R1 R1' R2 R2' R3 R3') (hM : U a0 n f c f') (hx : x.toInt = cT T c f') (hx0 : 0 ≤ x.toInt) (hy : y.toInt = c) (hu : u.toInt = a0) (hv : v.toInt = -1) (hw3 : w.toInt = -1) : rG1 U T z n f nn la' la 0 0 0 R1' R2' R3' := by
  subst ep
  refine rF1_w h hw (fun a ha => ?_) (fun a b ha hb => Or.inl ⟨fun e => rp_12 ha0 e.symm, Iff.rfl⟩) (fun a b c ha hb hc => Or.inl ⟨fun e => rp_13 ha0 e.symm, Iff.rfl⟩) (fun q hq => rp_1e ha0 hq)
  by_cases e : a = p
  · refine Or.inr ⟨e, ?_, ?_⟩
    · show (a : Int) < la'; omega
    · subst e
      exact rEN_s hw ⟨c, f', hM, rfl, fun _ _ => rfl⟩ hx hx0 hy hu hv hw3
  · refine Or.inl ⟨e, ?_⟩
    show (a : Int) < la' ↔ (a : Int) < la
    omega
theorem rG1_f2 {T : Int32 → Int32 → Int32} (hU : okU U) {z n m a0 b0 : Nat} {f g : Nat → Int32} {nn l1 la mi mi' : Int} {R1 R2 R3 : Nat → Int32} (h : rG1 U T z n f nn l1 la mi mi 0 R1 R2 R3) (hf : prg n 0 65535 f) (ea : (a0 : Int) = la) (eb : (b0 : Int) = mi) (e' : mi' = mi + 1) (h1 : U a0 n f m g) (hno : ∀ (c : Nat) (f2 : Nat → Int32), ¬ U b0 m g c f2) : rG1 U T z n f nn l1 la mi' mi' 0 R1 R2 R3 := by
  have k : ∀ (t : List Nat) (a b : Nat), (a : Int) = la → (b : Int) = mi → ∀ c f', ¬ UNL U (a :: b :: t) n f c f' := fun t a b e e2 c f' hh => by
    have q1 : a = a0 := by omega
    have q2 : b = b0 := by omega
    subst q1
    subst q2
    exact UNL_no hno _ _ ((UNL_cons hU hf h1).mp hh)
  refine rF1_ch h (fun a ha => ⟨fun s => s, fun s => Or.inl s⟩) (fun a b ha hb => ⟨fun s => ?_, fun s => ?_⟩) (fun a b c ha hb hc => ⟨fun s => ?_, fun s => ?_⟩)
  · have s : 1 < nn ∧ ((a : Int) < la ∨ ((a : Int) = la ∧ (b : Int) < mi)) := s
    show 1 < nn ∧ ((a : Int) < la ∨ ((a : Int) = la ∧ (b : Int) < mi')); omega
  · have s : 1 < nn ∧ ((a : Int) < la ∨ ((a : Int) = la ∧ (b : Int) < mi')) := s
    by_cases w : (a : Int) = la ∧ (b : Int) = mi
    · exact Or.inr (k _ a b w.1 w.2)
    · exact Or.inl (by show 1 < nn ∧ ((a : Int) < la ∨ ((a : Int) = la ∧ (b : Int) < mi)); omega)
  · have s : 2 < nn ∧ ((a : Int) < la ∨ ((a : Int) = la ∧ ((b : Int) < mi ∨ ((b : Int) = mi ∧ (c : Int) < 0)))) := s
    show 2 < nn ∧ ((a : Int) < la ∨ ((a : Int) = la ∧ ((b : Int) < mi' ∨ ((b : Int) = mi' ∧ (c : Int) < 0)))); omega
  · have s : 2 < nn ∧ ((a : Int) < la ∨ ((a : Int) = la ∧ ((b : Int) < mi' ∨ ((b : Int) = mi' ∧ (c : Int) < 0)))) := s
    by_cases w : (a : Int) = la ∧ (b : Int) = mi
    · exact Or.inr (k _ a b w.1 w.2)
    · exact Or.inl (by show 2 < nn ∧ ((a : Int) < la ∨ ((a : Int) = la ∧ ((b : Int) < mi ∨ ((b : Int) = mi ∧ (c : Int) < 0)))); omega)
theorem rG1_w2 {T : Int32 → Int32 → Int32} {z n m c a0 b0 p : Nat} {f g f' : Nat → Int32} {nn l1 la mi mi' : Int} {x y u v w : Int32} {R1 R1' R2 R2' R3 R3' : Nat → Int32} (h : rG1 U T z n f nn l1 la mi mi 0 R1 R2 R3) (hz : z ≤ 6) (hn : 1 < nn) (ha0 : a0 < z) (hb0 : b0 < z) (ea : (a0 : Int) = la) (eb : (b0 : Int) = mi) (e' : mi' = mi + 1) (ep : p = z + b0 * z + a0) (hw : rWP p x y u v w R1 R1' R2 R2' R3 R3') (h1 : U a0 n f m g) (hM : U b0 m g c f') (hx : x.toInt = cT T c f') (hx0 : 0 ≤ x.toInt) (hy : y.toInt = c) (hu : u.toInt = b0) (hv : v.toInt = a0) (hw3 : w.toInt = -1) : rG1 U T z n f nn l1 la mi' mi 0 R1' R2' R3' := by
  subst ep
  refine rF1_w h hw (fun a ha => Or.inl ⟨rp_12 ha, Iff.rfl⟩) (fun a b ha hb => ?_) (fun a b c ha hb hc => Or.inl ⟨fun e => rp_23 hz ha0 hb0 e.symm, Iff.rfl⟩) (fun q hq => rp_2e hz ha0 hb0 hq)
  by_cases e : z + b * z + a = z + b0 * z + a0
  · obtain ⟨q1, q2⟩ := rp_22 hz ha hb ha0 hb0 e
    refine Or.inr ⟨e, ?_, ?_⟩
    · show 1 < nn ∧ ((a : Int) < la ∨ ((a : Int) = la ∧ (b : Int) < mi')); omega
    · subst q1
      subst q2
      exact rEN_s hw ⟨m, g, h1, c, f', hM, rfl, fun _ _ => rfl⟩ hx hx0 hy hu hv hw3
  · refine Or.inl ⟨e, ?_⟩
    show (1 < nn ∧ ((a : Int) < la ∨ ((a : Int) = la ∧ (b : Int) < mi'))) ↔ (1 < nn ∧ ((a : Int) < la ∨ ((a : Int) = la ∧ (b : Int) < mi)))
    have : ¬ (a = a0 ∧ b = b0) := fun ⟨q1, q2⟩ => e (by rw [q1, q2])
    omega
theorem rG1_f3 {T : Int32 → Int32 → Int32} (hU : okU U) {z n m m2 a0 b0 c0 : Nat} {f g g2 : Nat → Int32} {nn l1 la mi mj fi fi' : Int} {R1 R2 R3 : Nat → Int32} (h : rG1 U T z n f nn l1 la mi mj fi R1 R2 R3) (hf : prg n 0 65535 f) (ea : (a0 : Int) = la) (eb : (b0 : Int) = mj) (ec : (c0 : Int) = fi) (e' : fi' = fi + 1) (h1 : U a0 n f m g) (h2 : U b0 m g m2 g2) (hno : ∀ (c : Nat) (f2 : Nat → Int32), ¬ U c0 m2 g2 c f2) : rG1 U T z n f nn l1 la mi mj fi' R1 R2 R3 := by
  have k : ∀ (a b c : Nat), (a : Int) = la → (b : Int) = mj → (c : Int) = fi → ∀ c2 f', ¬ UNL U [a, b, c] n f c2 f' := fun a b c e e2 e3 c2 f' hh => by
    have q1 : a = a0 := by omega
    have q2 : b = b0 := by omega
    have q3 : c = c0 := by omega
    subst q1
    subst q2
    subst q3
    exact UNL_no hno _ _ ((UNL_cons hU (hU.2.2.1 _ _ _ _ _ hf h1).2 h2).mp ((UNL_cons hU hf h1).mp hh))
  refine rF1_ch h (fun a ha => ⟨fun s => s, fun s => Or.inl s⟩) (fun a b ha hb => ⟨fun s => s, fun s => Or.inl s⟩) (fun a b c ha hb hc => ⟨fun s => ?_, fun s => ?_⟩)
  · have s : 2 < nn ∧ ((a : Int) < la ∨ ((a : Int) = la ∧ ((b : Int) < mj ∨ ((b : Int) = mj ∧ (c : Int) < fi)))) := s
    show 2 < nn ∧ ((a : Int) < la ∨ ((a : Int) = la ∧ ((b : Int) < mj ∨ ((b : Int) = mj ∧ (c : Int) < fi')))); omega
  · have s : 2 < nn ∧ ((a : Int) < la ∨ ((a : Int) = la ∧ ((b : Int) < mj ∨ ((b : Int) = mj ∧ (c : Int) < fi')))) := s
    by_cases w : (a : Int) = la ∧ (b : Int) = mj ∧ (c : Int) = fi
    · exact Or.inr (k a b c w.1 w.2.1 w.2.2)
    · exact Or.inl (by show 2 < nn ∧ ((a : Int) < la ∨ ((a : Int) = la ∧ ((b : Int) < mj ∨ ((b : Int) = mj ∧ (c : Int) < fi)))); omega)
theorem rG1_w3 {T : Int32 → Int32 → Int32} {z n m m2 c a0 b0 c0 p : Nat} {f g g2 f' : Nat → Int32} {nn l1 la mi mj fi fi' : Int} {x y u v w : Int32} {R1 R1' R2 R2' R3 R3' : Nat → Int32} (h : rG1 U T z n f nn l1 la mi mj fi R1 R2 R3) (hz : z ≤ 6) (hn : 2 < nn) (ha0 : a0 < z) (hb0 : b0 < z) (hc0 : c0 < z) (ea : (a0 : Int) = la) (eb : (b0 : Int) = mj) (ec : (c0 : Int) = fi) (e' : fi' = fi + 1) (ep : p = z + z * z + (c0 * z + b0) * z + a0) (hw : rWP p x y u v w R1 R1' R2 R2' R3 R3') (h1 : U a0 n f m g) (h2 : U b0 m g m2 g2) (hM : U c0 m2 g2 c f') (hx : x.toInt = cT T c f') (hx0 : 0 ≤ x.toInt) (hy : y.toInt = c) (hu : u.toInt = c0) (hv : v.toInt = b0) (hw3 : w.toInt = a0) : rG1 U T z n f nn l1 la mi mj fi' R1' R2' R3' := by
  subst ep
  refine rF1_w h hw (fun a ha => Or.inl ⟨rp_13 ha, Iff.rfl⟩) (fun a b ha hb => Or.inl ⟨rp_23 hz ha hb, Iff.rfl⟩) (fun a b c' ha hb hc => ?_) (fun q hq => rp_3e hz ha0 hb0 hc0 hq)
  by_cases e : z + z * z + (c' * z + b) * z + a = z + z * z + (c0 * z + b0) * z + a0
  · obtain ⟨q1, q2, q3⟩ := rp_33 hz ha hb hc ha0 hb0 hc0 e
    refine Or.inr ⟨e, ?_, ?_⟩
    · show 2 < nn ∧ ((a : Int) < la ∨ ((a : Int) = la ∧ ((b : Int) < mj ∨ ((b : Int) = mj ∧ (c' : Int) < fi')))); omega
    · subst q1
      subst q2
      subst q3
      exact rEN_s hw ⟨m, g, h1, m2, g2, h2, c, f', hM, rfl, fun _ _ => rfl⟩ hx hx0 hy hu hv hw3
  · refine Or.inl ⟨e, ?_⟩
    show (2 < nn ∧ ((a : Int) < la ∨ ((a : Int) = la ∧ ((b : Int) < mj ∨ ((b : Int) = mj ∧ (c' : Int) < fi'))))) ↔ (2 < nn ∧ ((a : Int) < la ∨ ((a : Int) = la ∧ ((b : Int) < mj ∨ ((b : Int) = mj ∧ (c' : Int) < fi)))))
    have : ¬ (a = a0 ∧ b = b0 ∧ c' = c0) := fun ⟨q1, q2, q3⟩ => e (by rw [q1, q2, q3])
    omega
theorem rG1_e3 {T : Int32 → Int32 → Int32} {z n : Nat} {f : Nat → Int32} {nn l1 la mi mj fi : Int} {R1 R2 R3 : Nat → Int32} (h : rG1 U T z n f nn l1 la mi mj fi R1 R2 R3) (em : mi = mj + 1) (hz : (z : Int) ≤ fi ∨ nn ≤ 2) : rG1 U T z n f nn l1 la mi mi 0 R1 R2 R3 := by
  refine rF1_ch h (fun a ha => ⟨fun s => s, fun s => Or.inl s⟩) (fun a b ha hb => ⟨fun s => s, fun s => Or.inl s⟩) (fun a b c ha hb hc => ⟨fun s => ?_, fun s => Or.inl ?_⟩)
  · have s : 2 < nn ∧ ((a : Int) < la ∨ ((a : Int) = la ∧ ((b : Int) < mj ∨ ((b : Int) = mj ∧ (c : Int) < fi)))) := s
    show 2 < nn ∧ ((a : Int) < la ∨ ((a : Int) = la ∧ ((b : Int) < mi ∨ ((b : Int) = mi ∧ (c : Int) < 0)))); omega
  · have s : 2 < nn ∧ ((a : Int) < la ∨ ((a : Int) = la ∧ ((b : Int) < mi ∨ ((b : Int) = mi ∧ (c : Int) < 0)))) := s
    show 2 < nn ∧ ((a : Int) < la ∨ ((a : Int) = la ∧ ((b : Int) < mj ∨ ((b : Int) = mj ∧ (c : Int) < fi)))); omega
theorem rG1_e2 {T : Int32 → Int32 → Int32} {z n : Nat} {f : Nat → Int32} {nn l1 la mi : Int} {R1 R2 R3 : Nat → Int32} (h : rG1 U T z n f nn l1 la mi mi 0 R1 R2 R3) (el : l1 = la + 1) (hz : (z : Int) ≤ mi ∨ nn ≤ 1) : rG1 U T z n f nn l1 l1 0 0 0 R1 R2 R3 := by
  refine rF1_ch h (fun a ha => ⟨fun s => s, fun s => Or.inl s⟩) (fun a b ha hb => ⟨fun s => ?_, fun s => Or.inl ?_⟩) (fun a b c ha hb hc => ⟨fun s => ?_, fun s => Or.inl ?_⟩)
  · have s : 1 < nn ∧ ((a : Int) < la ∨ ((a : Int) = la ∧ (b : Int) < mi)) := s
    show 1 < nn ∧ ((a : Int) < l1 ∨ ((a : Int) = l1 ∧ (b : Int) < 0)); omega
  · have s : 1 < nn ∧ ((a : Int) < l1 ∨ ((a : Int) = l1 ∧ (b : Int) < 0)) := s
    show 1 < nn ∧ ((a : Int) < la ∨ ((a : Int) = la ∧ (b : Int) < mi)); omega
  · have s : 2 < nn ∧ ((a : Int) < la ∨ ((a : Int) = la ∧ ((b : Int) < mi ∨ ((b : Int) = mi ∧ (c : Int) < 0)))) := s
    show 2 < nn ∧ ((a : Int) < l1 ∨ ((a : Int) = l1 ∧ ((b : Int) < 0 ∨ ((b : Int) = 0 ∧ (c : Int) < 0)))); omega
  · have s : 2 < nn ∧ ((a : Int) < l1 ∨ ((a : Int) = l1 ∧ ((b : Int) < 0 ∨ ((b : Int) = 0 ∧ (c : Int) < 0)))) := s
    show 2 < nn ∧ ((a : Int) < la ∨ ((a : Int) = la ∧ ((b : Int) < mi ∨ ((b : Int) = mi ∧ (c : Int) < 0)))); omega
/-- the harm that stands at the place j of a row -/
def nmz (z k code j : Nat) : Int := if k ≤ j then -1 else if j + 1 = k then ((code % z : Nat) : Int) else if j + 2 = k then ((code / z % z : Nat) : Int) else ((code / z / z % z : Nat) : Int)
/-- the book of all rows of at most nn harms that make the text -/
def rGE (U : Nat → Nat → (Nat → Int32) → Nat → (Nat → Int32) → Prop) (T : Int32 → Int32 → Int32) (z n : Nat) (f : Nat → Int32) (nn : Int) (R1 R2 R3 : Nat → Int32) : Prop :=
  (∀ k code : Nat, 1 ≤ k → k ≤ 3 → code < rpz z k → ((k : Int) ≤ nn → rEN T (roff z k + code) (UNL U (digs z k code) n f) (nmz z k code 0) (nmz z k code 1) (nmz z k code 2) R1 R2 R3) ∧ (nn < k → R1 (roff z k + code) = -1)) ∧ ∀ p : Nat, roff z 4 ≤ p → p < 258 → R1 p = -1
theorem rG1_GE {T : Int32 → Int32 → Int32} {z n : Nat} {f : Nat → Int32} {nn la : Int} {R1 R2 R3 : Nat → Int32} (h : rG1 U T z n f nn la la 0 0 0 R1 R2 R3) (hz : z ≤ 6) (hn : 1 ≤ nn) (hl : la = z) : rGE U T z n f nn R1 R2 R3 := by
  refine ⟨fun k code k1 k3' hc => ?_, h.2.2.2⟩
  rcases rk3 k1 k3' with e | e | e <;> subst e
  · have hc : code < z := hc
    obtain ⟨q1, q2⟩ := h.1 code hc
    have e1 : code % z = code := Nat.mod_eq_of_lt hc
    have e2 : roff z 1 + code = code := Nat.zero_add _
    have e3 : digs z 1 code = [code] := by show [code % z] = _; rw [e1]
    have e4 : nmz z 1 code 0 = code := by show ((code % z : Nat) : Int) = _; rw [e1]
    rw [e2, e3, e4]
    exact ⟨fun _ => q1 (by show (code : Int) < la; omega), fun w => by omega⟩
  · have hc : code < z * z := hc
    have zp : 0 < z := Nat.pos_of_ne_zero (fun e => by subst e; omega)
    have b1 : code / z < z := Nat.div_lt_of_lt_mul hc
    have a1 : code % z < z := Nat.mod_lt _ zp
    obtain ⟨q1, q2⟩ := h.2.1 (code % z) (code / z) a1 b1
    have e0 : code / z * z + code % z = code := by rw [Nat.mul_comm]; exact Nat.div_add_mod _ _
    have e1 : z + code / z * z + code % z = roff z 2 + code := by show _ = z + code; omega
    have e2 : code / z % z = code / z := Nat.mod_eq_of_lt b1
    have e3 : digs z 2 code = [code % z, code / z] := by show [code % z, code / z % z] = _; rw [e2]
    have e4 : nmz z 2 code 0 = ((code / z : Nat) : Int) := by show ((code / z % z : Nat) : Int) = _; rw [e2]
    rw [e1] at q1 q2
    rw [e3, e4]
    refine ⟨fun w => q1 ?_, fun w => q2 ?_⟩
    · show 1 < nn ∧ (((code % z : Nat) : Int) < la ∨ (((code % z : Nat) : Int) = la ∧ ((code / z : Nat) : Int) < 0))
      refine ⟨by omega, Or.inl ?_⟩
      rw [hl]; exact Int.ofNat_lt.mpr a1
    · show ¬ (1 < nn ∧ (((code % z : Nat) : Int) < la ∨ (((code % z : Nat) : Int) = la ∧ ((code / z : Nat) : Int) < 0)))
      exact fun w2 => absurd w2.1 (by omega)
  · have hc : code < z * z * z := hc
    have zp : 0 < z := Nat.pos_of_ne_zero (fun e => by subst e; omega)
    have b0 : code / z < z * z := Nat.div_lt_of_lt_mul (by rw [← Nat.mul_assoc]; exact hc)
    have c1 : code / z / z < z := Nat.div_lt_of_lt_mul b0
    have b1 : code / z % z < z := Nat.mod_lt _ zp
    have a1 : code % z < z := Nat.mod_lt _ zp
    obtain ⟨q1, q2⟩ := h.2.2.1 (code % z) (code / z % z) (code / z / z) a1 b1 c1
    have e00 : code / z / z * z + code / z % z = code / z := by rw [Nat.mul_comm]; exact Nat.div_add_mod _ _
    have e0 : code / z * z + code % z = code := by rw [Nat.mul_comm]; exact Nat.div_add_mod _ _
    have e1 : z + z * z + (code / z / z * z + code / z % z) * z + code % z = roff z 3 + code := by rw [e00]; show _ = z + z * z + code; omega
    have e2 : code / z / z % z = code / z / z := Nat.mod_eq_of_lt c1
    have e3 : digs z 3 code = [code % z, code / z % z, code / z / z] := by show [code % z, code / z % z, code / z / z % z] = _; rw [e2]
    have e4 : nmz z 3 code 0 = ((code / z / z : Nat) : Int) := by show ((code / z / z % z : Nat) : Int) = _; rw [e2]
    rw [e1] at q1 q2
    rw [e3, e4]
    refine ⟨fun w => q1 ?_, fun w => q2 ?_⟩
    · show 2 < nn ∧ (((code % z : Nat) : Int) < la ∨ (((code % z : Nat) : Int) = la ∧ (((code / z % z : Nat) : Int) < 0 ∨ (((code / z % z : Nat) : Int) = 0 ∧ ((code / z / z : Nat) : Int) < 0))))
      refine ⟨by omega, Or.inl ?_⟩
      rw [hl]; exact Int.ofNat_lt.mpr a1
    · show ¬ (2 < nn ∧ (((code % z : Nat) : Int) < la ∨ (((code % z : Nat) : Int) = la ∧ (((code / z % z : Nat) : Int) < 0 ∨ (((code / z % z : Nat) : Int) = 0 ∧ ((code / z / z : Nat) : Int) < 0)))))
      exact fun w2 => absurd w2.1 (by omega)
theorem cT_u (hU : okU U) {T : Int32 → Int32 → Int32} {l : List Nat} {n c c' : Nat} {f f1 f2 : Nat → Int32} (hn : n ≤ 300) (hf : prg n 0 65535 f) (h : UNL U l n f c f1) (h' : UNL U l n f c' f2) : cT T c f1 = cT T c' f2 := by
  obtain ⟨q1, q2⟩ := UNL_u hU l _ _ _ _ _ _ hf h h'
  exact cT_congr (by rw [q1]) (by omega) (fun _ _ _ _ _ _ => rfl) (UNL_r hU l _ _ _ _ hn hf h).2 (fun j hj => q2 j (by omega))
/-- a row that makes the text stands in the book -/
theorem ge_y (hU : okU U) {T : Int32 → Int32 → Int32} {z n k code c : Nat} {f f' : Nat → Int32} {nn : Int} {R1 R2 R3 : Nat → Int32} (h : rGE U T z n f nn R1 R2 R3) (hn : n ≤ 300) (hf : prg n 0 65535 f) (k1 : 1 ≤ k) (k2 : k ≤ 3) (k4 : (k : Int) ≤ nn) (hc : code < rpz z k) (hM : UNL U (digs z k code) n f c f') : (R1 (roff z k + code)).toInt = cT T c f' ∧ ¬ R1 (roff z k + code) = -1 ∧ (R2 (roff z k + code)).toInt = c ∧ (R3 (3 * (roff z k + code))).toInt = nmz z k code 0 ∧ (R3 (3 * (roff z k + code) + 1)).toInt = nmz z k code 1 ∧ (R3 (3 * (roff z k + code) + 2)).toInt = nmz z k code 2 ∧ 0 ≤ (R1 (roff z k + code)).toInt := by
  rcases (h.1 k code k1 k2 hc).1 k4 with ⟨c', f2, a1, a2, a3, a4, a5, a6, a7⟩ | ⟨a1, _⟩
  · refine ⟨by rw [a2]; exact cT_u hU hn hf a1 hM, v_nn a7, by rw [a3, (UNL_u hU _ _ _ _ _ _ _ hf a1 hM).1], a4, a5, a6, a7⟩
  · exact absurd hM (a1 _ _)
theorem ge_n {T : Int32 → Int32 → Int32} {z n k code : Nat} {f : Nat → Int32} {nn : Int} {R1 R2 R3 : Nat → Int32} (h : rGE U T z n f nn R1 R2 R3) (k1 : 1 ≤ k) (k2 : k ≤ 3) (hc : code < rpz z k) (hM : ∀ c f', ¬ UNL U (digs z k code) n f c f') : R1 (roff z k + code) = -1 := by
  by_cases k4 : (k : Int) ≤ nn
  · rcases (h.1 k code k1 k2 hc).1 k4 with ⟨c', f2, a1, _⟩ | ⟨_, a1⟩
    · exact absurd a1 (hM _ _)
    · exact a1
  · exact (h.1 k code k1 k2 hc).2 (by omega)
theorem ge_code {T : Int32 → Int32 → Int32} {z n p : Nat} {f : Nat → Int32} {nn : Int} {R1 R2 R3 : Nat → Int32} (h : rGE U T z n f nn R1 R2 R3) (hp : p < 258) (hR : ¬ R1 p = -1) : ∃ k code : Nat, 1 ≤ k ∧ k ≤ 3 ∧ (k : Int) ≤ nn ∧ code < rpz z k ∧ p = roff z k + code ∧ ∃ c f', UNL U (digs z k code) n f c f' := by
  have p4 : p < roff z 4 := by
    by_cases w : roff z 4 ≤ p
    · exact absurd (h.2 p w hp) hR
    · omega
  have s1 := roff_s (z := z) (k := 1) (by omega) (by omega)
  have s2 := roff_s (z := z) (k := 2) (by omega) (by omega)
  have s3 := roff_s (z := z) (k := 3) (by omega) (by omega)
  have o1 : roff z 1 = 0 := rfl
  have o2 : roff z (1 + 1) = roff z 2 := rfl
  have o3 : roff z (2 + 1) = roff z 3 := rfl
  have o4 : roff z (3 + 1) = roff z 4 := rfl
  have ex : ∃ k : Nat, 1 ≤ k ∧ k ≤ 3 ∧ roff z k ≤ p ∧ p < roff z k + rpz z k := by
    by_cases w2 : p < roff z 2
    · exact ⟨1, by omega, by omega, by omega, by omega⟩
    · by_cases w3 : p < roff z 3
      · exact ⟨2, by omega, by omega, by omega, by omega⟩
      · exact ⟨3, by omega, by omega, by omega, by omega⟩
  obtain ⟨k, k1, k2, k5, k6⟩ := ex
  have e : roff z k + (p - roff z k) = p := by omega
  have q := h.1 k (p - roff z k) k1 k2 (by omega)
  rw [e] at q
  by_cases k4 : (k : Int) ≤ nn
  · rcases q.1 k4 with ⟨c', f2, a1, _⟩ | ⟨_, a1⟩
    · exact ⟨k, p - roff z k, k1, k2, k4, by omega, e.symm, c', f2, a1⟩
    · exact absurd a1 hR
  · exact absurd (q.2 (by omega)) hR
/-- how many rows stand ahead of a place -/
def nF (R : Nat → Int32) : Nat → Nat
  | 0 => 0
  | p + 1 => nF R p + (if R p = -1 then 0 else 1)
theorem nF_y {R : Nat → Int32} {p : Nat} (h : ¬ R p = -1) : nF R (p + 1) = nF R p + 1 := by rw [nF, if_neg h]
theorem nF_n {R : Nat → Int32} {p : Nat} (h : R p = -1) : nF R (p + 1) = nF R p := by rw [nF, if_pos h, Nat.add_zero]
theorem nF_m (R : Nat → Int32) {p : Nat} : ∀ q, p ≤ q → nF R p ≤ nF R q
  | 0, h => by have e : p = 0 := by omega
               rw [e]; exact Nat.le_refl _
  | q + 1, h => by
    by_cases e : p = q + 1
    · rw [e]; exact Nat.le_refl _
    · have a := nF_m R (p := p) q (by omega)
      by_cases w : R q = -1
      · rw [nF_n w]; exact a
      · rw [nF_y w]; omega
theorem nF_l (R : Nat → Int32) : ∀ p, nF R p ≤ p
  | 0 => Nat.le_refl _
  | p + 1 => by
    have a := nF_l R p
    by_cases w : R p = -1
    · rw [nF_n w]; omega
    · rw [nF_y w]; omega
theorem nF_z {R : Nat → Int32} {p : Nat} : ∀ q, p ≤ q → (∀ j, p ≤ j → j < q → R j = -1) → nF R q = nF R p
  | 0, h, _ => by have e : p = 0 := by omega
                  rw [e]
  | q + 1, h, hz => by
    by_cases e : p = q + 1
    · rw [e]
    · rw [nF_n (hz q (by omega) (by omega))]
      exact nF_z q (by omega) (fun j h1 h2 => hz j h1 (by omega))
/-- the first of the cheapest -/
def mnP (R : Nat → Int32) (m p : Nat) : Prop := p < m ∧ ¬ R p = -1 ∧ (∀ q, q < m → ¬ R q = -1 → (R p).toInt ≤ (R q).toInt) ∧ ∀ q, q < p → ¬ R q = -1 → (R p).toInt < (R q).toInt
theorem mnP_u {R : Nat → Int32} {m p p' : Nat} (h : mnP R m p) (h' : mnP R m p') : p = p' := by
  obtain ⟨a1, a2, a3, a4⟩ := h
  obtain ⟨b1, b2, b3, b4⟩ := h'
  rcases Nat.lt_trichotomy p p' with z | z | z
  · have q1 := b4 p z a2
    have q2 := a3 p' b1 b2
    omega
  · exact z
  · have q1 := a4 p' z b2
    have q2 := b3 p a1 a2
    omega
theorem mnP_keep {R : Nat → Int32} {m p : Nat} (h : mnP R m p) (hn : R m = -1 ∨ (R p).toInt ≤ (R m).toInt) : mnP R (m + 1) p := by
  obtain ⟨a1, a2, a3, a4⟩ := h
  refine ⟨by omega, a2, fun q hq hr => ?_, a4⟩
  by_cases e : q = m
  · subst e
    exact hn.elim (fun w => absurd w hr) id
  · exact a3 q (by omega) hr
theorem mnP_new {R : Nat → Int32} {m : Nat} (hm : ¬ R m = -1) (h : (∀ q, q < m → R q = -1) ∨ ∃ p, mnP R m p ∧ (R m).toInt < (R p).toInt) : mnP R (m + 1) m := by
  refine ⟨by omega, hm, fun q hq hr => ?_, fun q hq hr => ?_⟩
  · by_cases e : q = m
    · rw [e]; exact Int.le_refl _
    · rcases h with h | ⟨p, h1, h2⟩
      · exact absurd (h q (by omega)) hr
      · have := h1.2.2.1 q (by omega) hr
        omega
  · rcases h with h | ⟨p, h1, h2⟩
    · exact absurd (h q hq) hr
    · have := h1.2.2.1 q hq hr
      omega
/-- cheapest(): while it goes -/
def CHq (R : Nat → Int32) (m be : Int) : Prop := (be = -1 ∧ ∀ q : Nat, (q : Int) < m → R q = -1) ∨ ∃ p : Nat, be = p ∧ mnP R m.toNat p
theorem CHq_0 {R : Nat → Int32} {m be : Int} (h : be = -1) (hm : m ≤ 0) : CHq R m be := Or.inl ⟨h, fun q hq => by omega⟩
theorem CHq_no {R : Nat → Int32} {m m' be : Int32} {x : Int32} (h : CHq R m.toInt be.toInt) (ex : x = R m.toNatClampNeg) (hx : x = -1) (h0 : 0 ≤ m.toInt) (hm : m'.toInt = m.toInt + 1) : CHq R m'.toInt be.toInt := by
  have c := v_clamp h0
  have e1 : m.toInt.toNat = m.toNatClampNeg := by omega
  have e2 : m'.toInt.toNat = m.toNatClampNeg + 1 := by omega
  rcases h with ⟨a1, a2⟩ | ⟨p, a1, a2⟩
  · refine Or.inl ⟨a1, fun q hq => ?_⟩
    by_cases e : q = m.toNatClampNeg
    · rw [e, ← ex]; exact hx
    · exact a2 q (by omega)
  · rw [e1] at a2
    refine Or.inr ⟨p, a1, ?_⟩
    rw [e2]
    exact mnP_keep a2 (Or.inl (by rw [← ex]; exact hx))
theorem CHq_keep {R : Nat → Int32} {m m' be x y : Int32} (h : CHq R m.toInt be.toInt) (ex : x = R m.toNatClampNeg) (ey : y = R be.toNatClampNeg) (hb : ¬ be.toInt = -1) (hxy : y.toInt ≤ x.toInt) (h0 : 0 ≤ m.toInt) (hm : m'.toInt = m.toInt + 1) : CHq R m'.toInt be.toInt := by
  have c := v_clamp h0
  have e1 : m.toInt.toNat = m.toNatClampNeg := by omega
  have e2 : m'.toInt.toNat = m.toNatClampNeg + 1 := by omega
  rcases h with ⟨a1, a2⟩ | ⟨p, a1, a2⟩
  · exact absurd a1 hb
  · rw [e1] at a2
    have e3 : be.toNatClampNeg = p := ix_eq (by omega)
    refine Or.inr ⟨p, a1, ?_⟩
    rw [e2]
    exact mnP_keep a2 (Or.inr (by rw [← ex, ← e3, ← ey]; exact hxy))
theorem CHq_new {R : Nat → Int32} {m m' be x : Int32} (h : CHq R m.toInt be.toInt) (ex : x = R m.toNatClampNeg) (hx : ¬ x = -1) (hc : be.toInt = -1 ∨ ∃ y, y = R be.toNatClampNeg ∧ x.toInt < y.toInt) (h0 : 0 ≤ m.toInt) (hm : m'.toInt = m.toInt + 1) : CHq R m'.toInt m.toInt := by
  have c := v_clamp h0
  have e1 : m.toInt.toNat = m.toNatClampNeg := by omega
  have e2 : m'.toInt.toNat = m.toNatClampNeg + 1 := by omega
  refine Or.inr ⟨m.toNatClampNeg, by omega, ?_⟩
  rw [e2]
  refine mnP_new (by rw [← ex]; exact hx) ?_
  rcases h with ⟨a1, a2⟩ | ⟨p, a1, a2⟩
  · exact Or.inl (fun q hq => a2 q (by omega))
  · rw [e1] at a2
    rcases hc with hc | ⟨y, y1, y2⟩
    · omega
    · have e3 : be.toNatClampNeg = p := ix_eq (by omega)
      exact Or.inr ⟨p, a2, by rw [← ex, ← e3, ← y1]; exact y2⟩
/-- the harms of a row as they stand in the book, the last one first -/
def flk (R : Nat → Int32) (p : Nat) : Nat → List Nat
  | 0 => []
  | j + 1 => if R (3 * p + j) = -1 then flk R p j else (R (3 * p + j)).toNatClampNeg :: flk R p j
theorem flk_digs {z k code p : Nat} {R : Nat → Int32} (k1 : 1 ≤ k) (k2 : k ≤ 3) (n0 : (R (3 * p)).toInt = nmz z k code 0) (n1 : (R (3 * p + 1)).toInt = nmz z k code 1) (n2 : (R (3 * p + 2)).toInt = nmz z k code 2) : flk R p 3 = digs z k code := by
  have m1 : (-1 : Int32).toInt = -1 := rfl
  have st : ∀ (j d : Nat), (R (3 * p + j)).toInt = (d : Int) → flk R p (j + 1) = d :: flk R p j := fun j d e => by
    rw [flk, if_neg (v_nn (by omega)), ix_eq (x := R (3 * p + j)) (N := d) e]
  have sk : ∀ (j : Nat), (R (3 * p + j)).toInt = -1 → flk R p (j + 1) = flk R p j := fun j e => by
    rw [flk, if_pos (v_inj (by rw [m1]; exact e))]
  have n0 : (R (3 * p + 0)).toInt = nmz z k code 0 := n0
  rcases rk3 k1 k2 with e | e | e <;> subst e
  · rw [sk 2 n2, sk 1 n1, st 0 (code % z) n0]; rfl
  · rw [sk 2 n2, st 1 (code % z) n1, st 0 (code / z % z) n0]; rfl
  · rw [st 2 (code % z) n2, st 1 (code / z % z) n1, st 0 (code / z / z % z) n0]; rfl
/-- mend() -/
def mdP (U : Nat → Nat → (Nat → Int32) → Nat → (Nat → Int32) → Prop) (T : Int32 → Int32 → Int32) (z n : Nat) (f : Nat → Int32) (nn gain : Int) (R1 : Nat → Int32) (c : Nat) (fm : Nat → Int32) (v : Int) : Prop :=
  (1 ≤ nn ∧ nn ≤ 3 ∧ 1 ≤ gain ∧ gain ≤ 100000) ∧ ∃ k code : Nat, 1 ≤ k ∧ k ≤ 3 ∧ (k : Int) ≤ nn ∧ code < rpz z k ∧ mnP R1 258 (roff z k + code) ∧ gain ≤ cT T n f - (R1 (roff z k + code)).toInt ∧ UNL U (digs z k code) n f c fm ∧ v = nF R1 (roff z k + code)
theorem off_inj {z k k' c c' : Nat} (k1 : 1 ≤ k) (k2 : k ≤ 3) (k1' : 1 ≤ k') (k2' : k' ≤ 3) (hc : c < rpz z k) (hc' : c' < rpz z k') (h : roff z k + c = roff z k' + c') : k = k' ∧ c = c' := by
  have s := roff_s (z := z) k1 k2
  have s' := roff_s (z := z) k1' k2'
  rcases Nat.lt_trichotomy k k' with w | w | w
  · have := roff_m (z := z) (k := k + 1) (k' := k') (by omega) (by omega) (by omega)
    omega
  · subst w
    exact ⟨rfl, by omega⟩
  · have := roff_m (z := z) (k := k' + 1) (k' := k) (by omega) (by omega) (by omega)
    omega
theorem md_ok (hU : okU U) {T : Int32 → Int32 → Int32} {z n : Nat} {f : Nat → Int32} {nn gain : Int} {R1 : Nat → Int32} (hn : n ≤ 300) (hf : prg n 0 65535 f) (hlz : ∀ (h n c : Nat) (f f' : Nat → Int32), h < z → prg n 0 65535 f → U h n f c f' → ∀ i, i < c → isLz (f' i)) : okQ (mdP U T z n f nn gain R1) := by
  have ll : ∀ (l : List Nat) (n c : Nat) (f f' : Nat → Int32), (∀ h, h ∈ l → h < z) → ¬ l = [] → prg n 0 65535 f → UNL U l n f c f' → ∀ i, i < c → isLz (f' i) := by
    intro l
    induction l with
    | nil => exact fun _ _ _ _ _ h => absurd rfl h
    | cons h t ih =>
      rintro n c f f' hm - hf ⟨m, g, a, b⟩ i hi
      by_cases e : t = []
      · subst e
        rw [b.2 i hi]
        exact hlz h _ _ _ _ (hm h List.mem_cons_self) hf a i (by have := b.1; omega)
      · exact ih _ _ _ _ (fun h' hh => hm h' (List.mem_cons_of_mem _ hh)) e (hU.2.2.1 _ _ _ _ _ hf a).2 b i hi
  rintro c fm v ⟨_, k, code, k1, k2, k4, hc, hm, hg, hM, hv⟩
  have zp : 1 ≤ z := by
    rcases Nat.eq_zero_or_pos z with w | w
    · subst w
      rcases rk3 k1 k2 with e | e | e <;> subst e <;> exact absurd hc (Nat.not_lt_zero _)
    · exact w
  refine ⟨⟨(UNL_r hU _ _ _ _ _ hn hf hM).1, ?_⟩, ?_⟩
  · refine ll _ _ _ _ _ (fun h hh => digs_lt zp _ _ _ hh) ?_ hf hM
    rcases rk3 k1 k2 with e | e | e <;> subst e <;> exact List.cons_ne_nil _ _
  · rintro c' fm' v' ⟨_, k', code', k1', k2', k4', hc', hm', hg', hM', hv'⟩
    obtain ⟨e1, e2⟩ := off_inj k1 k2 k1' k2' hc hc' (mnP_u hm hm')
    subst e1
    subst e2
    obtain ⟨q1, q2⟩ := UNL_u hU _ _ _ _ _ _ _ hf hM hM'
    exact ⟨q1, by rw [hv, hv'], q2⟩
/-- both sides have one book -/
theorem ge_iff (hU : okU U) {T T' : Int32 → Int32 → Int32} {z n : Nat} {f g : Nat → Int32} {nn : Int} {R1 R2 R3 : Nat → Int32} (hV : okU V) (hn : n ≤ 300) (hf : prg n 0 65535 f) (hfg : ∀ i, i < n → f i = g i) (he : ∀ h, h < z → ∀ (n c : Nat) (f f' : Nat → Int32), prg n 0 65535 f → (U h n f c f' ↔ V h n f c f')) (hT : ∀ x y : Int32, 0 ≤ x.toInt → x.toInt ≤ 65535 → 0 ≤ y.toInt → y.toInt ≤ 65535 → T x y = T' x y) (h : rGE U T z n f nn R1 R2 R3) : rGE V T' z n g nn R1 R2 R3 := by
  refine ⟨fun k code k1 k2 hc => ⟨fun k4 => ?_, (h.1 k code k1 k2 hc).2⟩, h.2⟩
  have zp : 1 ≤ z := by
    rcases Nat.eq_zero_or_pos z with w | w
    · subst w
      rcases rk3 k1 k2 with e | e | e <;> subst e <;> exact absurd hc (Nat.not_lt_zero _)
    · exact w
  have iff9 : ∀ c f', UNL U (digs z k code) n f c f' ↔ UNL V (digs z k code) n g c f' := fun c f' =>
    (UNL_iff hU _ _ _ _ _ (fun h hh => he h (digs_lt zp _ _ _ hh)) hf).trans ⟨UNL_g hV _ _ _ _ _ _ hfg, UNL_g hV _ _ _ _ _ _ (fun i hi => (hfg i hi).symm)⟩
  rcases (h.1 k code k1 k2 hc).1 k4 with ⟨c, f', a1, a2, a3⟩ | ⟨a1, a2⟩
  · exact Or.inl ⟨c, f', (iff9 c f').mp a1, a2.trans (cT_congr rfl (by omega) hT (UNL_r hU _ _ _ _ _ hn hf a1).2 (fun _ _ => rfl)), a3⟩
  · exact Or.inr ⟨fun c f' w => a1 c f' ((iff9 c f').mpr w), a2⟩
theorem md_iff (hU : okU U) {T T' : Int32 → Int32 → Int32} {z n : Nat} {f g : Nat → Int32} {nn gain : Int} {R1 : Nat → Int32} (hV : okU V) (hn : n ≤ 300) (hf : prg n 0 65535 f) (hfg : ∀ i, i < n → f i = g i) (he : ∀ h, h < z → ∀ (n c : Nat) (f f' : Nat → Int32), prg n 0 65535 f → (U h n f c f' ↔ V h n f c f')) (hT : ∀ x y : Int32, 0 ≤ x.toInt → x.toInt ≤ 65535 → 0 ≤ y.toInt → y.toInt ≤ 65535 → T x y = T' x y) : ∀ c fm v, mdP U T z n f nn gain R1 c fm v ↔ mdP V T' z n g nn gain R1 c fm v := by
  intro c fm v
  have ct : cT T n f = cT T' n g := cT_congr rfl (by omega) hT hf (fun j hj => hfg j (by omega))
  have iff9 : ∀ (k code : Nat), 1 ≤ k → k ≤ 3 → code < rpz z k → (UNL U (digs z k code) n f c fm ↔ UNL V (digs z k code) n g c fm) := fun k code k1 k2 hc => by
    have zp : 1 ≤ z := by
      rcases Nat.eq_zero_or_pos z with w | w
      · subst w
        rcases rk3 k1 k2 with e | e | e <;> subst e <;> exact absurd hc (Nat.not_lt_zero _)
      · exact w
    exact (UNL_iff hU _ _ _ _ _ (fun h hh => he h (digs_lt zp _ _ _ hh)) hf).trans ⟨UNL_g hV _ _ _ _ _ _ hfg, UNL_g hV _ _ _ _ _ _ (fun i hi => (hfg i hi).symm)⟩
  constructor
  · rintro ⟨a0, k, code, k1, k2, k4, hc, hm, hg, hM, hv⟩
    exact ⟨a0, k, code, k1, k2, k4, hc, hm, by rw [← ct]; exact hg, (iff9 k code k1 k2 hc).mp hM, hv⟩
  · rintro ⟨a0, k, code, k1, k2, k4, hc, hm, hg, hM, hv⟩
    exact ⟨a0, k, code, k1, k2, k4, hc, hm, by rw [ct]; exact hg, (iff9 k code k1 k2 hc).mpr hM, hv⟩
theorem rG1_cg {T : Int32 → Int32 → Int32} {z n : Nat} {f : Nat → Int32} {nn l1 la mi mj fi l1' la' mi' mj' fi' : Int} {R1 R2 R3 : Nat → Int32} (h : rG1 U T z n f nn l1 la mi mj fi R1 R2 R3) (e1 : l1 = l1') (e2 : la = la') (e3 : mi = mi') (e4 : mj = mj') (e5 : fi = fi') : rG1 U T z n f nn l1' la' mi' mj' fi' R1 R2 R3 := by
  subst e1
  subst e2
  subst e3
  subst e4
  subst e5
  exact h
theorem to_p (hU : okU U) {r l : Int32} {f f' : Nat → Int32} {h : Nat} {n : Int} (a : F_to U r l f' h n f) (e : ¬ r.toInt = 0) (hf : prg n 0 65535 f) : prg l.toInt 0 65535 f' := by
  obtain ⟨c, c1, c2⟩ := to_1 a e
  rw [c1]
  exact (hU.2.2.1 _ _ _ _ _ (fun j hj => hf j (by omega)) c2).2
theorem to_ps {r q l a b : Int32} {f f' H1 H2 f41 f42 f43 f51 f52 f53 : Nat → Int32} {h : Nat} {n : Int} (hp : F_ps q l f' a b f41 f51 (Bc a f42 f43 f52 f53) n f) (ea : a = H2 h) (eb : b = H1 h) (hr : r.toInt = q.toInt) : F_to (UC H1 H2 f41 f42 f43 f51 f52 f53) r l f' h n f := by
  have e : r = q := v_inj hr
  subst e
  subst ea
  subst eb
  exact hp
theorem to_ur {r q l a b : Int32} {f f' e1 e2 eL eB : Nat → Int32} {h : Nat} {n : Int} (hp : F_ps q l f' b a (fun k => eL k) (fun k => eL (256 + k)) (Br b eB) n f) (ea : a = e1 h) (eb : b = e2 h) (hr : r.toInt = q.toInt) : F_to (UR e1 e2 eL eB) r l f' h n f := by
  have e : r = q := v_inj hr
  subst e
  subst ea
  subst eb
  exact hp
theorem v_mulz {x a b : Int32} (h : x = a * b) (ha : 0 ≤ a.toInt ∧ a.toInt ≤ 42) (hb : 0 ≤ b.toInt ∧ b.toInt ≤ 6) : x.toInt = ((a.toNatClampNeg * b.toNatClampNeg : Nat) : Int) ∧ 0 ≤ x.toInt ∧ x.toInt ≤ 252 := by
  have c1 := v_clamp ha.1
  have c2 := v_clamp hb.1
  have u : a.toNatClampNeg * b.toNatClampNeg ≤ 42 * 6 := Nat.mul_le_mul (by omega) (by omega)
  have e : a.toInt * b.toInt = ((a.toNatClampNeg * b.toNatClampNeg : Nat) : Int) := by rw [Int.natCast_mul, c1, c2]
  have q := v_mul h (by rw [e]; omega) (by rw [e]; omega)
  rw [e] at q
  exact ⟨q, by omega, by omega⟩
theorem pl2_of {al mi la x p : Int32} (h : x = mi * al) (hp : p.toInt = al.toInt + x.toInt + la.toInt) (ra : 0 ≤ al.toInt ∧ al.toInt ≤ 6) (rm : 0 ≤ mi.toInt ∧ mi.toInt ≤ 5) (rl : 0 ≤ la.toInt) : p.toNatClampNeg = al.toNatClampNeg + mi.toNatClampNeg * al.toNatClampNeg + la.toNatClampNeg := by
  have q := v_mulz h (by omega) ra
  have c1 := v_clamp ra.1
  have c2 := v_clamp rl
  exact ix_eq (by omega)
theorem pl3_of {al fi mi la x1 x2 x3 x4 p : Int32} (h1 : x1 = al * al) (h2 : x2 = fi * al) (h3 : x3.toInt = x2.toInt + mi.toInt) (h4 : x4 = x3 * al) (hp : p.toInt = al.toInt + x1.toInt + x4.toInt + la.toInt) (ra : 0 ≤ al.toInt ∧ al.toInt ≤ 6) (rf : 0 ≤ fi.toInt ∧ fi.toInt ≤ 5) (rm : 0 ≤ mi.toInt ∧ mi.toInt ≤ 5) (rl : 0 ≤ la.toInt) (r2 : x2.toInt ≤ 30) : p.toNatClampNeg = al.toNatClampNeg + al.toNatClampNeg * al.toNatClampNeg + (fi.toNatClampNeg * al.toNatClampNeg + mi.toNatClampNeg) * al.toNatClampNeg + la.toNatClampNeg := by
  have q1 := v_mulz h1 (by omega) ra
  have q2 := v_mulz h2 (by omega) ra
  have cm := v_clamp rm.1
  have c3 : x3.toNatClampNeg = fi.toNatClampNeg * al.toNatClampNeg + mi.toNatClampNeg := ix_eq (by omega)
  have q4 := v_mulz h4 (by omega) ra
  rw [c3] at q4
  have c1 := v_clamp ra.1
  have c2 := v_clamp rl
  exact ix_eq (by omega)
theorem v_mulz5 {x a b : Int32} (h : x = a * b) (ha : 0 ≤ a.toInt ∧ a.toInt ≤ 5) (hb : 0 ≤ b.toInt ∧ b.toInt ≤ 6) : x.toInt ≤ 30 := by
  have c1 := v_clamp ha.1
  have c2 := v_clamp hb.1
  have q := v_mulz h (by omega) hb
  have u : a.toNatClampNeg * b.toNatClampNeg ≤ 5 * 6 := Nat.mul_le_mul (by omega) (by omega)
  omega
def F_no (T : Int32 → Int32 → Int32) (pl l : Int32) (g R1 R1' R2 R2' : Nat → Int32) : Prop := ∃ x : Int32, R1' = upd R1 pl.toNatClampNeg x ∧ x.toInt = cT T l.toInt g ∧ 0 ≤ x.toInt ∧ R2' = upd R2 pl.toNatClampNeg l
def F_nh (pl a b d : Int32) (R3 R3' : Nat → Int32) : Prop := R3' = upd (upd (upd R3 (3 * pl.toNatClampNeg) a) (3 * pl.toNatClampNeg + 1) b) (3 * pl.toNatClampNeg + 2) d
theorem wp_of {T : Int32 → Int32 → Int32} {pl l a b d : Int32} {g R1 R1' R2 R2' R3 R3' : Nat → Int32} (hn : F_no T pl l g R1 R1' R2 R2') (hh : F_nh pl a b d R3 R3') (h0 : 0 ≤ l.toInt) : ∃ x : Int32, rWP pl.toNatClampNeg x l a b d R1 R1' R2 R2' R3 R3' ∧ x.toInt = cT T ((l.toInt.toNat : Nat) : Int) g ∧ 0 ≤ x.toInt := by
  obtain ⟨x, a1, a2, a3, a4⟩ := hn
  have e : ((l.toInt.toNat : Nat) : Int) = l.toInt := by omega
  exact ⟨x, ⟨a1, a4, hh⟩, by rw [e]; exact a2, a3⟩
/-- what build() answers -/
def F_bd (U : Nat → Nat → (Nat → Int32) → Nat → (Nat → Int32) → Prop) (L : List Nat) (r l : Int32) (f' : Nat → Int32) (n : Int) (f : Nat → Int32) : Prop := (r = 1 ∧ ∃ c : Nat, l.toInt = c ∧ UNL U L n.toNat f c f') ∨ (r = 0 ∧ ∀ (c : Nat) (f2 : Nat → Int32), ¬ UNL U L n.toNat f c f2)
def bEq (U : Nat → Nat → (Nat → Int32) → Nat → (Nat → Int32) → Prop) (L L' : List Nat) (n n' : Int) (f f' : Nat → Int32) : Prop := ∀ (c : Nat) (g : Nat → Int32), UNL U L n.toNat f c g ↔ UNL U L' n'.toNat f' c g
theorem bl_cp (hU : okU U) {L L' : List Nat} {n m m' : Int} {f g g' : Nat → Int32} (h : bEq U L L' n m f g) (em : m' = m) (hg : ∀ j : Nat, (j : Int) < m → g' j = g j) : bEq U L L' n m' f g' := by
  subst em
  exact fun c k => (h c k).trans ⟨UNL_g hU _ _ _ _ _ _ (fun i hi => (hg i (by omega)).symm), UNL_g hU _ _ _ _ _ _ (fun i hi => hg i (by omega))⟩
theorem bl_0 (hU : okU U) {R f g : Nat → Int32} {p m : Nat} {n n' : Int} (em : m = 3) (en : n' = n) (hg : ∀ j : Nat, (j : Int) < n → g j = f j) : bEq U (flk R p 3) (flk R p m) n n' f g := by
  subst em
  exact bl_cp hU (fun _ _ => Iff.rfl) en hg
theorem bl_sk {R f g : Nat → Int32} {L : List Nat} {p m m' : Nat} {n n' : Int} {i x : Int32} (h : bEq U L (flk R p m) n n' f g) (em : m = m' + 1) (ex : x = R i.toNatClampNeg) (ei : i.toInt = 3 * p + m') (hx : x = -1) : bEq U L (flk R p m') n n' f g := by
  subst em
  have e : R (3 * p + m') = -1 := by rw [← ix_eq (x := i) (N := 3 * p + m') (by omega), ← ex]; exact hx
  have q : flk R p (m' + 1) = flk R p m' := by rw [flk, if_pos e]
  rw [q] at h
  exact h
theorem flk_y {R : Nat → Int32} {p m : Nat} {i x : Int32} (ex : x = R i.toNatClampNeg) (ei : i.toInt = 3 * p + m) (hx : ¬ x = -1) : flk R p (m + 1) = x.toNatClampNeg :: flk R p m := by
  have e : R (3 * p + m) = x := by rw [← ix_eq (x := i) (N := 3 * p + m) (by omega), ← ex]
  rw [flk, e, if_neg hx]
theorem bl_do (hU : okU U) {R f g g2 g3 : Nat → Int32} {L : List Nat} {p m m' : Nat} {n n' : Int} {i x r l l3 : Int32} (h : bEq U L (flk R p m) n n' f g) (em : m = m' + 1) (ex : x = R i.toNatClampNeg) (ei : i.toInt = 3 * p + m') (hx : ¬ x = -1) (ht : F_to U r l g2 x.toNatClampNeg n' g) (hr : ¬ r.toInt = 0) (hg : prg n' 0 65535 g) (e3 : l3.toInt = l.toInt) (hg3 : ∀ j : Nat, (j : Int) < l.toInt → g3 j = g2 j) : bEq U L (flk R p m') n l3.toInt f g3 := by
  subst em
  rw [flk_y ex ei hx] at h
  exact bl_cp hU (fun c k => (h c k).trans (UNL_cons hU (fun j hj => hg j (by omega)) (to_1n ht hr))) e3 hg3
theorem bl_no {R f g g2 f' : Nat → Int32} {L : List Nat} {p m m' : Nat} {n n' : Int} {i x r l q l9 : Int32} (h : bEq U L (flk R p m) n n' f g) (em : m = m' + 1) (ex : x = R i.toNatClampNeg) (ei : i.toInt = 3 * p + m') (hx : ¬ x = -1) (ht : F_to U r l g2 x.toNatClampNeg n' g) (hr : r.toInt = 0) (hq : q.toInt = 0) : F_bd U L q l9 f' n f := by
  subst em
  rw [flk_y ex ei hx] at h
  exact Or.inr ⟨v_inj hq, fun c k w => UNL_no (to_0 ht hr) _ _ ((h c k).mp w)⟩
theorem bl_end {R f g f' : Nat → Int32} {L : List Nat} {p m : Nat} {n n' : Int} {q l9 : Int32} (h : bEq U L (flk R p m) n n' f g) (em : m = 0) (h0 : 0 ≤ n') (hq : q.toInt = 1) (hl : l9.toInt = n') (hf : ∀ j : Nat, (j : Int) < n' → f' j = g j) : F_bd U L q l9 f' n f := by
  subst em
  exact Or.inl ⟨v_inj hq, n'.toNat, by omega, (h _ _).mpr ⟨rfl, fun i hi => hf i (by omega)⟩⟩
theorem nF_st {R : Nat → Int32} {k k' nu nu' x : Int32} (h : nu.toInt = nF R k.toNatClampNeg) (ex : x = R k.toNatClampNeg) (hc : (x = -1 ∧ nu'.toInt = nu.toInt) ∨ (¬ x = -1 ∧ nu'.toInt = nu.toInt + 1)) (h0 : 0 ≤ k.toInt) (hk : k'.toInt = k.toInt + 1) : nu'.toInt = nF R k'.toNatClampNeg := by
  have c := v_clamp h0
  have e : k'.toNatClampNeg = k.toNatClampNeg + 1 := ix_eq (by omega)
  rw [e]
  rcases hc with ⟨a, b⟩ | ⟨a, b⟩
  · rw [nF_n (by rw [← ex]; exact a)]; omega
  · rw [nF_y (by rw [← ex]; exact a)]; omega
theorem md_none {T : Int32 → Int32 → Int32} {z n : Nat} {f : Nat → Int32} {nn gain be : Int} {R1 : Nat → Int32} (h : CHq R1 258 be) (hb : be = -1) : ∀ c fm v, ¬ mdP U T z n f nn gain R1 c fm v := by
  rintro c fm v ⟨_, k, code, _, _, _, _, hm, _⟩
  rcases h with ⟨_, h⟩ | ⟨p, h, _⟩
  · exact hm.2.1 (h _ (by have := hm.1; omega))
  · omega
theorem ch_mn {R1 : Nat → Int32} {be : Int32} (h : CHq R1 258 be.toInt) (hb : ¬ be.toInt = -1) : mnP R1 258 be.toNatClampNeg := by
  rcases h with ⟨h, _⟩ | ⟨p, h, hm⟩
  · exact absurd h hb
  · rw [ix_eq (x := be) (N := p) h]; exact hm
theorem md_less {T : Int32 → Int32 → Int32} {z n p : Nat} {f : Nat → Int32} {nn gain : Int} {R1 : Nat → Int32} (h : mnP R1 258 p) (hl : cT T n f - (R1 p).toInt < gain) : ∀ c fm v, ¬ mdP U T z n f nn gain R1 c fm v := by
  rintro c fm v ⟨_, k, code, _, _, _, _, hm, hg, _⟩
  rw [← mnP_u h hm] at hg
  omega
theorem ge_pos {T : Int32 → Int32 → Int32} {z n p : Nat} {f : Nat → Int32} {nn : Int} {R1 R2 R3 : Nat → Int32} (h : rGE U T z n f nn R1 R2 R3) (hp : p < 258) (hR : ¬ R1 p = -1) : 0 ≤ (R1 p).toInt := by
  obtain ⟨k, code, k1, k2, k4, hc, e, c, f', hM⟩ := ge_code h hp hR
  subst e
  rcases (h.1 k code k1 k2 hc).1 k4 with ⟨c', f2, a1, a2, a3, a4, a5, a6, a7⟩ | ⟨a1, _⟩
  · exact a7
  · exact absurd hM (a1 _ _)
theorem ge_nm {T : Int32 → Int32 → Int32} {z n p : Nat} {f : Nat → Int32} {nn : Int} {R1 R2 R3 : Nat → Int32} (h : rGE U T z n f nn R1 R2 R3) (hp : p < 258) (hR : ¬ R1 p = -1) : ∀ j : Nat, j < 3 → R3 (3 * p + j) = -1 ∨ (0 ≤ (R3 (3 * p + j)).toInt ∧ (R3 (3 * p + j)).toInt < z) := by
  obtain ⟨k, code, k1, k2, k4, hc, e, c, f', hM⟩ := ge_code h hp hR
  subst e
  have m1 : (-1 : Int32).toInt = -1 := rfl
  have zp : 1 ≤ z := by
    rcases Nat.eq_zero_or_pos z with w | w
    · subst w
      rcases rk3 k1 k2 with e | e | e <;> subst e <;> exact absurd hc (Nat.not_lt_zero _)
    · exact w
  have nm : ∀ j, nmz z k code j = -1 ∨ (0 ≤ nmz z k code j ∧ nmz z k code j < z) := fun j => by
    have l1 : code % z < z := Nat.mod_lt _ zp
    have l2 : code / z % z < z := Nat.mod_lt _ zp
    have l3 : code / z / z % z < z := Nat.mod_lt _ zp
    unfold nmz
    split
    · exact Or.inl rfl
    · split
      · exact Or.inr ⟨Int.natCast_nonneg _, Int.ofNat_lt.mpr l1⟩
      · split
        · exact Or.inr ⟨Int.natCast_nonneg _, Int.ofNat_lt.mpr l2⟩
        · exact Or.inr ⟨Int.natCast_nonneg _, Int.ofNat_lt.mpr l3⟩
  rcases (h.1 k code k1 k2 hc).1 k4 with ⟨c', f2, a1, a2, a3, a4, a5, a6, a7⟩ | ⟨a1, _⟩
  · intro j hj
    have cv : ∀ {u : Int32} {d : Int}, u.toInt = d → (d = -1 ∨ (0 ≤ d ∧ d < z)) → (u = -1 ∨ (0 ≤ u.toInt ∧ u.toInt < z)) := fun e1 e2 => by
      rcases e2 with e2 | e2
      · exact Or.inl (v_inj (by rw [m1]; omega))
      · exact Or.inr (by omega)
    have j3 : j = 0 ∨ j = 1 ∨ j = 2 := by omega
    rcases j3 with e | e | e <;> subst e
    · exact cv a4 (nm 0)
    · exact cv a5 (nm 1)
    · exact cv a6 (nm 2)
  · exact absurd hM (a1 _ _)
/-- the cheapest row is made again -/
theorem md_bld (hU : okU U) {T : Int32 → Int32 → Int32} {z n p : Nat} {f f' : Nat → Int32} {m nn gain v : Int} {r l : Int32} {R1 R2 R3 : Nat → Int32} (h : rGE U T z n f nn R1 R2 R3) (em : m.toNat = n) (hn : n ≤ 300) (hf : prg n 0 65535 f) (hm : mnP R1 258 p) (hb : F_bd U (flk R3 p 3) r l f' m f) : ¬ r.toInt = 0 ∧ ((1 ≤ nn ∧ nn ≤ 3 ∧ 1 ≤ gain ∧ gain ≤ 100000) → gain ≤ cT T n f - (R1 p).toInt → v = nF R1 p → ∃ c : Nat, l.toInt = c ∧ mdP U T z n f nn gain R1 c f' v) := by
  obtain ⟨k, code, k1, k2, k4, hc, e, c, f2, hM⟩ := ge_code h hm.1 hm.2.1
  obtain ⟨g1, g2, g3, g4, g5, g6, g7⟩ := ge_y hU h hn hf k1 k2 k4 hc hM
  subst e
  rw [flk_digs k1 k2 g4 g5 g6] at hb
  unfold F_bd at hb
  rw [em] at hb
  rcases hb with ⟨b1, c', b2, b3⟩ | ⟨_, b2⟩
  · exact ⟨fun w => by rw [b1] at w; exact absurd w (by decide), fun q1 q2 q3 => ⟨c', b2, q1, k, code, k1, k2, k4, hc, hm, q2, b3, q3⟩⟩
  · exact absurd hM (b2 _ _)
end RWS
