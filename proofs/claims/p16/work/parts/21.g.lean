/-! 40.makers -/
section
theorem p_pos {k : Int32} (h : 0 < k) : ¬ k < 0 := fun h2 => Int32.lt_irrefl (Int32.lt_trans h h2)

theorem p_fill {f : Nat → Int32} {v x : Int32} {i : Nat} (hx : x = nI i) (hi : i < 2 ^ 31) (h : ∀ j, j < i → f j = v) : ∀ j, j < i + 1 → upd f x.toNatClampNeg v j = v := by
  intro j hj
  rw [hx, nI_clamp hi]
  by_cases e : j = i
  · subst e; exact pk_us
  · rw [pk_un e]; exact h j (by omega)
theorem p_sfill {f : Nat → Int32} {v x : Int32} {i : Nat} (hx : x = nI i) (hi : i < 2 ^ 31) (hv : vp_nar .short v = v) (h : ∀ j, j < i → f j = v) : ∀ j, j < i + 1 → upd f x.toNatClampNeg (vp_nar .short v) j = v := by
  rw [hv]
  exact p_fill hx hi h

set_option maxHeartbeats 4000000 in
set_option maxRecDepth 100000 in
theorem k_X5_init (l : Launch) (dC : Nat → ClassId) (dI : Nat → Nat → Nat) (cI cS : ClassId) (sz : Nat) (nu : Nat) (n : Nat) (k : Int32) (hk0 : 0 < k) (hk1 : k.toNatClampNeg = n) (hn : n ≤ 2400) : Met l yX5_init wsX5_init ({ frames := 1, cells := 1, slots := n, locals := 21 } : Room) (va_Pc [.ref nu, .int k] (fun U => U.heap.size = sz ∧ va_P (dC, dI) vwCl [(nu, .inr (5, [.null, .int 0]))] U.heap ∧ va_K (dC, dI) vwCl [(cI, .int), (cS, .short)] U ∧ va_D (fun _ => True) [(nu, .inr (5, [.null, .int 0]))])) (va_Qv (fun (_ : Unit) => True) (fun _ t => ∃ (ar : Nat), va_P (dC, dI) vwCl [(nu, .inr (5, [.ref ar, .int 0])), (ar, .inl (cI, n, .inl (fun _ => 0)))] t.heap ∧ va_D (va_A [(nu, .inr (5, [.null, .int 0]))] sz) [(nu, .inr (5, [.ref ar, .int 0])), (ar, .inl (cI, n, .inl (fun _ => 0)))]) (va_A [(nu, .inr (5, [.null, .int 0]))] sz)) 1 n (va_A [(nu, .inr (5, [.null, .int 0]))] sz) := by
  refine Met.ofW (cc := cX5_init) (maxL := 2) (ret := none) (by decide) rfl ?_
  intro p e s m args below meth c s₁ B hml hv
  obtain ⟨rfl, hsz, hP, hK, hD0⟩ := hv
  have hx := B.exec
  have hb := B.bytes
  have hr := B.returns
  have hts := atoms_spec (ws := wsX5_init) B.pre
  have hown : s.vm.findClass RX5 = some m.cls := findClass_of_methodNamed B.named
  have hlocks := B.notSynchronized
  have hin : meth.name = "<init>" := (name_of_methodNamed B.named B.method).1
  have in_X5 : ∀ w ∈ wsX50, w ∈ wsX5_init := fun _ h => List.mem_cons_of_mem _ (List.mem_append_right _ (h))
  subst hsz
  have hD := hD0.self (sz := s.heap.size)
  generalize hAe : va_A [(nu, .inr (5, [.null, .int 0]))] s.heap.size = A at hD ⊢
  have hA : ∀ q : Nat, s.heap.size ≤ q → A q := fun q h => by rw [← hAe]; exact Or.inr h
  have hS : va_S A s.heap s.heap [] := va_S.rf
  have hP : va_P (dC, dI) vwCl [(nu, .inr (5, [.null, .int 0]))] s.heap := hP
  have hl := lv_entry ([.ref nu, .int k]) (n := 2) (Nat.le_of_ble_eq_true rfl)
  rw [lg_entry_eq]
  generalize (lg_sl ([.ref nu, .int k]) ++ List.replicate (2 - (lg_sl ([.ref nu, .int k])).length) Slot.unset).toArray = ls at hl ⊢
  have hl : lv_has ls 2 [(0, .ref nu), (1, .int k)] := hl
  refine lv_aload_n hx hb dX5_init_0 rfl (lv_at hl 0 rfl) ?_
  refine W.objInit hx hb hown (hts (.methodLink RX5 3 objectInit) (List.mem_of_getElem? (i := 1) rfl)) (hts (.instanceMethod objectInit) (List.mem_of_getElem? (i := 2) rfl)) (hts (.code objectInit ⟨#[0xb1]⟩ 1 none) (List.mem_of_getElem? (i := 3) rfl)) rfl (by rw [hml]; exact hl.1) rfl dX5_init_1 (Nat.le_of_ble_eq_true rfl) (Nat.le_of_ble_eq_true rfl) ?_
  refine W.eq (g2 := F0 m 4 ls []) rfl ?_
  refine lv_aload_n hx hb dX5_init_4 rfl (lv_at hl 0 rfl) ?_
  refine lv_iconst (v := 0) hx hb dX5_init_5 (by decide) ?_
  refine lv_iload_n hx hb dX5_init_6 rfl (lv_at hl 1 rfl) ?_
  refine va_mmax hx hb (by rw [hml]; exact hl.1.symm) hown (hts (.methodLink RX5 9 Lib.Math.max.name) (List.mem_of_getElem? (i := 4) rfl)) (hts (.static Lib.Math.max.name) (List.mem_of_getElem? (i := 5) rfl)) (hts (.initialized "java/lang/Math") (List.mem_of_getElem? (i := 6) rfl)) (hts (.code Lib.Math.max.name Lib.Math.max.code 2 (some .int)) (List.mem_of_getElem? (i := 7) rfl)) (Nat.le_of_ble_eq_true rfl) (Nat.le_of_ble_eq_true rfl) (Nat.zero_le _) (Nat.zero_le _) dX5_init_7 ?_
  refine k_i (y := k) (if_pos hk0) ?_
  refine p_newint hx hb (hts (.arrayClass .int) (List.mem_of_getElem? (i := 8) rfl)) hK hP hD hS hA (n := k) (N := n) (p_pos hk0) hk1 (by omega) (Nat.le_of_ble_eq_true rfl) (by show 0 + n ≤ n; omega) dX5_init_10 (fun q_1 H hPn hDn hSn => ?_)
  clear hP hD hS
  have hP : va_P (dC, dI) vwCl [(nu, .inr (5, [.null, .int 0])), (q_1, .inl (cI, n, .inl (fun _ => 0)))] H := hPn
  have hD : va_D A [(nu, .inr (5, [.null, .int 0])), (q_1, .inl (cI, n, .inl (fun _ => 0)))] := hDn
  have hS := hSn
  clear hPn hDn hSn
  refine W.widen (k := 1) (n := n) (by omega) (by omega) ?_
  refine va_putF (D := (dC, dI)) (ci := 5) (v := .ref q_1) (ty := .array .int) (C := RX5) (T := TX5) (N := 2) hx hb hts in_X5 tyX5 tyX5_ok nmX5 hown hK hP hD hS 0 rfl rfl 0 (by decide) (hts (.fieldLink RX5 15 "TextMender$Numbers" "numbers" "[I") (List.mem_of_getElem? (i := 9) rfl)) (fun _ h9 => h9) rfl hin rfl (tyX5_ok 0 (Nat.le_of_ble_eq_true rfl)) rfl rfl (Nat.le_of_ble_eq_true rfl) dX5_init_12 (fun H locs hPn hDn hSn => ?_)
  clear hP hD hS
  have hP : va_P (dC, dI) vwCl [(nu, .inr (5, [.ref q_1, .int 0])), (q_1, .inl (cI, n, .inl (fun _ => 0)))] H := hPn
  have hD : va_D A [(nu, .inr (5, [.ref q_1, .int 0])), (q_1, .inl (cI, n, .inl (fun _ => 0)))] := hDn
  have hS := hSn
  clear hPn hDn hSn
  refine lv_aload_n hx hb dX5_init_15 rfl (lv_at hl 0 rfl) ?_
  refine lv_iconst (v := 0) hx hb dX5_init_16 (by decide) ?_
  refine va_put (D := (dC, dI)) (ci := 5) (v := .int 0) (ty := .int) (C := RX5) (T := TX5) (N := 2) hx hb hts in_X5 tyX5 tyX5_ok nmX5 hown hK hP hD hS 0 rfl rfl 1 (by decide) (hts (.fieldLink RX5 21 "TextMender$Numbers" "length" "I") (List.mem_of_getElem? (i := 10) rfl)) (fun _ h9 => h9) rfl (tyX5_ok 1 (Nat.le_of_ble_eq_true rfl)) rfl rfl (Nat.le_of_ble_eq_true rfl) dX5_init_17 (fun H locs hPn hDn hSn => ?_)
  clear hP hD hS
  have hP : va_P (dC, dI) vwCl [(nu, .inr (5, [.ref q_1, .int 0])), (q_1, .inl (cI, n, .inl (fun _ => 0)))] H := hPn
  have hD : va_D A [(nu, .inr (5, [.ref q_1, .int 0])), (q_1, .inl (cI, n, .inl (fun _ => 0)))] := hDn
  have hS := hSn
  clear hPn hDn hSn
  have hP9 := hP.sub (ws' := [(nu, .inr (5, [.ref q_1, .int 0])), (q_1, .inl (cI, n, .inl (fun _ => 0)))]) [0, 1] rfl
  have hD9 := hD.sub (ws' := [(nu, .inr (5, [.ref q_1, .int 0])), (q_1, .inl (cI, n, .inl (fun _ => 0)))]) [0, 1] (by decide +kernel) rfl
  refine W.widen (k := 1) (n := n) (by omega) (by omega) ?_
  exact W.vret hx hb hr (fun t ht hW => ⟨⟨(), rfl, trivial, q_1, by rw [ht]; exact hP9, hD9⟩, hS.F ht⟩) (hS.2.2) dX5_init_20

set_option maxHeartbeats 4000000 in
set_option maxRecDepth 100000 in
theorem k_J7_fill_53178 (l : Launch) (dC : Nat → ClassId) (dI : Nat → Nat → Nat) (cI cS : ClassId) (sz : Nat) (ar : Nat) (n : Nat) (v : Int32) (f : Nat → Int32) (hn : n < 2 ^ 31) : Met l yJ7_fill_53178 wsJ7_fill_53178 ({ frames := 0, cells := 0, slots := 0, locals := 0 } : Room) (va_Pc [.ref ar, .int v] (fun U => U.heap.size = sz ∧ va_P (dC, dI) vwCl [(ar, .inl (cI, n, .inl f))] U.heap ∧ va_K (dC, dI) vwCl [(cI, .int), (cS, .short)] U ∧ va_D (fun _ => True) [(ar, .inl (cI, n, .inl f))])) (va_Qv (fun (_ : Unit) => True) (fun _ t => va_P (dC, dI) vwCl [(ar, .inl (cI, n, .inl (fun _ => v)))] t.heap ∧ va_D (va_A [(ar, .inl (cI, n, .inl f))] sz) [(ar, .inl (cI, n, .inl (fun _ => v)))]) (va_A [(ar, .inl (cI, n, .inl f))] sz)) 0 0 (va_A [(ar, .inl (cI, n, .inl f))] sz) := by
  refine Met.ofW (cc := cJ7_fill_53178) (maxL := 4) (ret := none) (by decide) rfl ?_
  intro p e s m args below meth c s₁ B hml hv
  obtain ⟨rfl, hsz, hP, hK, hD0⟩ := hv
  have hx := B.exec
  have hb := B.bytes
  have hr := B.returns
  have hts := atoms_spec (ws := wsJ7_fill_53178) B.pre
  have hown : s.vm.findClass RJ7 = some m.cls := findClass_of_methodNamed B.named
  have hlocks := B.notSynchronized
  subst hsz
  have hD := hD0.self (sz := s.heap.size)
  generalize hAe : va_A [(ar, .inl (cI, n, .inl f))] s.heap.size = A at hD ⊢
  have hA : ∀ q : Nat, s.heap.size ≤ q → A q := fun q h => by rw [← hAe]; exact Or.inr h
  have hS : va_S A s.heap s.heap [] := va_S.rf
  have hP : va_P (dC, dI) vwCl [(ar, .inl (cI, n, .inl f))] s.heap := hP
  have hl := lv_entry ([.ref ar, .int v]) (n := 4) (Nat.le_of_ble_eq_true rfl)
  rw [lg_entry_eq]
  generalize (lg_sl ([.ref ar, .int v]) ++ List.replicate (4 - (lg_sl ([.ref ar, .int v])).length) Slot.unset).toArray = ls at hl ⊢
  have hl : lv_has ls 4 [(0, .ref ar), (1, .int v)] := hl
  refine lv_iconst (v := 0) hx hb dJ7_fill_53178_0 (by decide) ?_
  refine lv_istore_n (lv' := [(2, .int 0), (0, .ref ar), (1, .int v)]) hx hb dJ7_fill_53178_1 rfl hl (by decide) rfl (fun ls hl => ?_)
  refine lv_aload_n hx hb dJ7_fill_53178_2 rfl (lv_at hl 1 rfl) ?_
  refine va_alen hx hb hK hP 0 0 rfl rfl (v := Int32.ofNat n) rfl dJ7_fill_53178_3 ?_
  refine lv_istore_n (lv' := [(3, .int (Int32.ofNat n)), (2, .int 0), (0, .ref ar), (1, .int v)]) hx hb dJ7_fill_53178_4 rfl hl (by decide) rfl (fun ls hl => ?_)
  have LOOP_5 : ∀ (k_5 i_5 : Nat) (xc_5 : Int32) (f2 : Nat → Int32) (H : Heap) (locs : List Loc) (ls : Array Slot), i_5 + k_5 = n → xc_5 = nI i_5 → (∀ j, j < i_5 → f2 j = v) → va_P (dC, dI) vwCl [(ar, .inl (cI, n, .inl f2))] H → va_D A [(ar, .inl (cI, n, .inl f2))] → va_S A s.heap H locs → lv_has ls 4 [(3, .int (Int32.ofNat n)), (2, .int xc_5), (0, .ref ar), (1, .int v)] → W p l e (headSpec wsJ7_fill_53178 ({ frames := 0, cells := 0, slots := 0, locals := 0 } : Room)).room s m ([.ref ar, .int v] : List Value).toArray below meth c H locs 0 0 (MQ below (va_Qv (fun (_ : Unit) => True) (fun _ t => va_P (dC, dI) vwCl [(ar, .inl (cI, n, .inl (fun _ => v)))] t.heap ∧ va_D A [(ar, .inl (cI, n, .inl (fun _ => v)))]) A) ([.ref ar, .int v] : List Value).toArray s 0 0 A) (F0 m 5 ls []) := by
    intro k_5
    induction k_5 with
    | zero =>
      intro i_5 xc_5 f2 H locs ls hi_5 hxc_5 hf2 hP hD hS hl
      have hi2_5 : i_5 = n := by omega
      have hP := p_Prow hP 0 (g := fun _ => v) rfl (fun j hj => hf2 j (by omega))
      have hD := p_Drow hD 0 (g := fun _ => v) rfl
      have hP : va_P (dC, dI) vwCl [(ar, .inl (cI, n, .inl (fun _ => v)))] H := hP
      have hD : va_D A [(ar, .inl (cI, n, .inl (fun _ => v)))] := hD
      refine lv_iload_n hx hb dJ7_fill_53178_5 rfl (lv_at hl 1 rfl) ?_
      refine lv_iload_n hx hb dJ7_fill_53178_6 rfl (lv_at hl 0 rfl) ?_
      refine lv_icmp_ge (tgt := 20) hx hb dJ7_fill_53178_7 (by decide) (fun c_1 => ?_) (fun c_1 => absurd (by rw [hxc_5]; exact nI_le (a := n) (b := i_5) (by omega) (by rw [hi2_5]; exact (hn))) c_1)
      have hP9 := hP.sub (ws' := [(ar, .inl (cI, n, .inl (fun _ => v)))]) [0] rfl
      have hD9 := hD.sub (ws' := [(ar, .inl (cI, n, .inl (fun _ => v)))]) [0] (by decide +kernel) rfl
      exact W.vret hx hb hr (fun t ht hW => ⟨⟨(), rfl, trivial, by rw [ht]; exact hP9, hD9⟩, hS.F ht⟩) (hS.2.2) dJ7_fill_53178_20
    | succ k_5 ih_5 =>
      intro i_5 xc_5 f2 H locs ls hi_5 hxc_5 hf2 hP hD hS hl
      refine lv_iload_n hx hb dJ7_fill_53178_5 rfl (lv_at hl 1 rfl) ?_
      refine lv_iload_n hx hb dJ7_fill_53178_6 rfl (lv_at hl 0 rfl) ?_
      refine lv_icmp_ge (tgt := 20) hx hb dJ7_fill_53178_7 (by decide) (fun c_2 => absurd c_2 (by rw [hxc_5]; exact nI_ge (a := i_5) (b := n) (by omega) (hn))) (fun c_2 => ?_)
      refine lv_aload_n hx hb dJ7_fill_53178_10 rfl (lv_at hl 2 rfl) ?_
      refine lv_iload_n hx hb dJ7_fill_53178_11 rfl (lv_at hl 1 rfl) ?_
      refine lv_iload_n hx hb dJ7_fill_53178_12 rfl (lv_at hl 3 rfl) ?_
      refine va_iast hx hb hK hP hD hS 0 0 rfl rfl (by rw [hxc_5]; exact vp_in_nI (by omega) (hn)) dJ7_fill_53178_13 (fun H locs hPn hDn hSn => ?_)
      clear hP hD hS
      have hP : va_P (dC, dI) vwCl [(ar, .inl (cI, n, .inl (upd f2 (xc_5 : Int32).toNatClampNeg v)))] H := hPn
      have hD : va_D A [(ar, .inl (cI, n, .inl (upd f2 (xc_5 : Int32).toNatClampNeg v)))] := hDn
      have hS := hSn
      clear hPn hDn hSn
      obtain ⟨x_3, ex_3⟩ : ∃ y : Int32, y = xc_5 + 1 := ⟨_, rfl⟩
      refine lv_iinc (v := x_3) (lv' := [(2, .int x_3), (3, .int (Int32.ofNat n)), (0, .ref ar), (1, .int v)]) hx hb dJ7_fill_53178_14 hl (k := 1) rfl (by rw [ex_3]; rfl) (by decide) rfl (fun ls hl => ?_)
      refine lv_goto (tgt := 5) hx hb dJ7_fill_53178_17 (by decide) ?_
      exact ih_5 (i_5 + 1) x_3 (upd f2 (xc_5 : Int32).toNatClampNeg v) _ _ _ (by omega) (by rw [ex_3, hxc_5]; exact nI_1 i_5) (p_fill hxc_5 (by omega) hf2) hP hD hS (lv_sub hl [1, 0, 2, 3] rfl)
  exact LOOP_5 n 0 0 f _ _ _ (by omega) nI_0.symm (fun j hj => absurd hj (Nat.not_lt_zero j)) hP hD hS (lv_sub hl [0, 1, 2, 3] rfl)

set_option maxHeartbeats 4000000 in
set_option maxRecDepth 100000 in
theorem k_X10_init (l : Launch) (dC : Nat → ClassId) (dI : Nat → Nat → Nat) (cI cS : ClassId) (sz : Nat) (o : Nat)  : Met l yX10_init wsX10_init ({ frames := 1, cells := 3, slots := 1280, locals := 23 } : Room) (va_Pc [.ref o] (fun U => U.heap.size = sz ∧ va_P (dC, dI) vwCl [(o, .inr (10, [.null, .null, .null, .int 0]))] U.heap ∧ va_K (dC, dI) vwCl [(cI, .int), (cS, .short)] U ∧ va_D (fun _ => True) [(o, .inr (10, [.null, .null, .null, .int 0]))])) (va_Qv (fun (_ : Unit) => True) (fun _ t => ∃ (a1 : Nat) (a2 : Nat) (a3 : Nat), va_P (dC, dI) vwCl [(o, .inr (10, [.ref a1, .ref a2, .ref a3, .int 0])), (a1, .inl (cI, 256, .inl (fun _ => (-1)))), (a2, .inl (cI, 512, .inl (fun _ => 0))), (a3, .inl (cI, 512, .inl (fun _ => (-1))))] t.heap ∧ va_D (va_A [(o, .inr (10, [.null, .null, .null, .int 0]))] sz) [(o, .inr (10, [.ref a1, .ref a2, .ref a3, .int 0])), (a1, .inl (cI, 256, .inl (fun _ => (-1)))), (a2, .inl (cI, 512, .inl (fun _ => 0))), (a3, .inl (cI, 512, .inl (fun _ => (-1))))]) (va_A [(o, .inr (10, [.null, .null, .null, .int 0]))] sz)) 3 1280 (va_A [(o, .inr (10, [.null, .null, .null, .int 0]))] sz) := by
  refine Met.ofW (cc := cX10_init) (maxL := 1) (ret := none) (by decide) rfl ?_
  intro p e s m args below meth c s₁ B hml hv
  obtain ⟨rfl, hsz, hP, hK, hD0⟩ := hv
  have hx := B.exec
  have hb := B.bytes
  have hr := B.returns
  have hts := atoms_spec (ws := wsX10_init) B.pre
  have hown : s.vm.findClass RX10 = some m.cls := findClass_of_methodNamed B.named
  have hlocks := B.notSynchronized
  have hin : meth.name = "<init>" := (name_of_methodNamed B.named B.method).1
  have in_X10 : ∀ w ∈ wsX100, w ∈ wsX10_init := fun _ h => List.mem_cons_of_mem _ (List.mem_append_left _ (List.mem_append_right _ (h)))
  subst hsz
  have hD := hD0.self (sz := s.heap.size)
  generalize hAe : va_A [(o, .inr (10, [.null, .null, .null, .int 0]))] s.heap.size = A at hD ⊢
  have hA : ∀ q : Nat, s.heap.size ≤ q → A q := fun q h => by rw [← hAe]; exact Or.inr h
  have hS : va_S A s.heap s.heap [] := va_S.rf
  have hP : va_P (dC, dI) vwCl [(o, .inr (10, [.null, .null, .null, .int 0]))] s.heap := hP
  have hl := lv_entry ([.ref o]) (n := 1) (Nat.le_of_ble_eq_true rfl)
  rw [lg_entry_eq]
  generalize (lg_sl ([.ref o]) ++ List.replicate (1 - (lg_sl ([.ref o])).length) Slot.unset).toArray = ls at hl ⊢
  have hl : lv_has ls 1 [(0, .ref o)] := hl
  refine lv_aload_n hx hb dX10_init_0 rfl (lv_at hl 0 rfl) ?_
  refine W.objInit hx hb hown (hts (.methodLink RX10 3 objectInit) (List.mem_of_getElem? (i := 1) rfl)) (hts (.instanceMethod objectInit) (List.mem_of_getElem? (i := 2) rfl)) (hts (.code objectInit ⟨#[0xb1]⟩ 1 none) (List.mem_of_getElem? (i := 3) rfl)) rfl (by rw [hml]; exact hl.1) rfl dX10_init_1 (Nat.le_of_ble_eq_true rfl) (Nat.le_of_ble_eq_true rfl) ?_
  refine W.eq (g2 := F0 m 4 ls []) rfl ?_
  refine lv_aload_n hx hb dX10_init_4 rfl (lv_at hl 0 rfl) ?_
  refine lv_sipush (v := 256) hx hb dX10_init_5 (by decide) ?_
  refine p_newint hx hb (hts (.arrayClass .int) (List.mem_of_getElem? (i := 4) rfl)) hK hP hD hS hA (n := 256) (N := 256) (by decide) (by decide) (by decide) (Nat.le_of_ble_eq_true rfl) (Nat.le_of_ble_eq_true rfl) dX10_init_8 (fun q_1 H hPn hDn hSn => ?_)
  clear hP hD hS
  have hP : va_P (dC, dI) vwCl [(o, .inr (10, [.null, .null, .null, .int 0])), (q_1, .inl (cI, 256, .inl (fun _ => 0)))] H := hPn
  have hD : va_D A [(o, .inr (10, [.null, .null, .null, .int 0])), (q_1, .inl (cI, 256, .inl (fun _ => 0)))] := hDn
  have hS := hSn
  clear hPn hDn hSn
  refine W.widen (k := 1) (n := 256) (Nat.le_of_ble_eq_true rfl) (Nat.le_of_ble_eq_true rfl) ?_
  refine va_putF (D := (dC, dI)) (ci := 10) (v := .ref q_1) (ty := .array .int) (C := RX10) (T := TX10) (N := 4) hx hb hts in_X10 tyX10 tyX10_ok nmX10 hown hK hP hD hS 0 rfl rfl 0 (by decide) (hts (.fieldLink RX10 9 "TextMender$ToldCode" "letterOf" "[I") (List.mem_of_getElem? (i := 5) rfl)) (fun _ h9 => h9) rfl hin rfl (tyX10_ok 0 (Nat.le_of_ble_eq_true rfl)) rfl rfl (Nat.le_of_ble_eq_true rfl) dX10_init_10 (fun H locs hPn hDn hSn => ?_)
  clear hP hD hS
  have hP : va_P (dC, dI) vwCl [(o, .inr (10, [.ref q_1, .null, .null, .int 0])), (q_1, .inl (cI, 256, .inl (fun _ => 0)))] H := hPn
  have hD : va_D A [(o, .inr (10, [.ref q_1, .null, .null, .int 0])), (q_1, .inl (cI, 256, .inl (fun _ => 0)))] := hDn
  have hS := hSn
  clear hPn hDn hSn
  refine lv_aload_n hx hb dX10_init_13 rfl (lv_at hl 0 rfl) ?_
  refine lv_sipush (v := 512) hx hb dX10_init_14 (by decide) ?_
  refine p_newint hx hb (hts (.arrayClass .int) (List.mem_of_getElem? (i := 4) rfl)) hK hP hD hS hA (n := 512) (N := 512) (by decide) (by decide) (by decide) (Nat.le_of_ble_eq_true rfl) (Nat.le_of_ble_eq_true rfl) dX10_init_17 (fun q_2 H hPn hDn hSn => ?_)
  clear hP hD hS
  have hP : va_P (dC, dI) vwCl [(o, .inr (10, [.ref q_1, .null, .null, .int 0])), (q_1, .inl (cI, 256, .inl (fun _ => 0))), (q_2, .inl (cI, 512, .inl (fun _ => 0)))] H := hPn
  have hD : va_D A [(o, .inr (10, [.ref q_1, .null, .null, .int 0])), (q_1, .inl (cI, 256, .inl (fun _ => 0))), (q_2, .inl (cI, 512, .inl (fun _ => 0)))] := hDn
  have hS := hSn
  clear hPn hDn hSn
  refine W.widen (k := 2) (n := 768) (Nat.le_of_ble_eq_true rfl) (Nat.le_of_ble_eq_true rfl) ?_
  refine va_putF (D := (dC, dI)) (ci := 10) (v := .ref q_2) (ty := .array .int) (C := RX10) (T := TX10) (N := 4) hx hb hts in_X10 tyX10 tyX10_ok nmX10 hown hK hP hD hS 0 rfl rfl 1 (by decide) (hts (.fieldLink RX10 15 "TextMender$ToldCode" "placeLetter" "[I") (List.mem_of_getElem? (i := 6) rfl)) (fun _ h9 => h9) rfl hin rfl (tyX10_ok 1 (Nat.le_of_ble_eq_true rfl)) rfl rfl (Nat.le_of_ble_eq_true rfl) dX10_init_19 (fun H locs hPn hDn hSn => ?_)
  clear hP hD hS
  have hP : va_P (dC, dI) vwCl [(o, .inr (10, [.ref q_1, .ref q_2, .null, .int 0])), (q_1, .inl (cI, 256, .inl (fun _ => 0))), (q_2, .inl (cI, 512, .inl (fun _ => 0)))] H := hPn
  have hD : va_D A [(o, .inr (10, [.ref q_1, .ref q_2, .null, .int 0])), (q_1, .inl (cI, 256, .inl (fun _ => 0))), (q_2, .inl (cI, 512, .inl (fun _ => 0)))] := hDn
  have hS := hSn
  clear hPn hDn hSn
  refine lv_aload_n hx hb dX10_init_22 rfl (lv_at hl 0 rfl) ?_
  refine lv_sipush (v := 512) hx hb dX10_init_23 (by decide) ?_
  refine p_newint hx hb (hts (.arrayClass .int) (List.mem_of_getElem? (i := 4) rfl)) hK hP hD hS hA (n := 512) (N := 512) (by decide) (by decide) (by decide) (Nat.le_of_ble_eq_true rfl) (Nat.le_of_ble_eq_true rfl) dX10_init_26 (fun q_3 H hPn hDn hSn => ?_)
  clear hP hD hS
  have hP : va_P (dC, dI) vwCl [(o, .inr (10, [.ref q_1, .ref q_2, .null, .int 0])), (q_1, .inl (cI, 256, .inl (fun _ => 0))), (q_2, .inl (cI, 512, .inl (fun _ => 0))), (q_3, .inl (cI, 512, .inl (fun _ => 0)))] H := hPn
  have hD : va_D A [(o, .inr (10, [.ref q_1, .ref q_2, .null, .int 0])), (q_1, .inl (cI, 256, .inl (fun _ => 0))), (q_2, .inl (cI, 512, .inl (fun _ => 0))), (q_3, .inl (cI, 512, .inl (fun _ => 0)))] := hDn
  have hS := hSn
  clear hPn hDn hSn
  refine W.widen (k := 3) (n := 1280) (Nat.le_of_ble_eq_true rfl) (Nat.le_of_ble_eq_true rfl) ?_
  refine va_putF (D := (dC, dI)) (ci := 10) (v := .ref q_3) (ty := .array .int) (C := RX10) (T := TX10) (N := 4) hx hb hts in_X10 tyX10 tyX10_ok nmX10 hown hK hP hD hS 0 rfl rfl 2 (by decide) (hts (.fieldLink RX10 18 "TextMender$ToldCode" "placeByte" "[I") (List.mem_of_getElem? (i := 7) rfl)) (fun _ h9 => h9) rfl hin rfl (tyX10_ok 2 (Nat.le_of_ble_eq_true rfl)) rfl rfl (Nat.le_of_ble_eq_true rfl) dX10_init_28 (fun H locs hPn hDn hSn => ?_)
  clear hP hD hS
  have hP : va_P (dC, dI) vwCl [(o, .inr (10, [.ref q_1, .ref q_2, .ref q_3, .int 0])), (q_1, .inl (cI, 256, .inl (fun _ => 0))), (q_2, .inl (cI, 512, .inl (fun _ => 0))), (q_3, .inl (cI, 512, .inl (fun _ => 0)))] H := hPn
  have hD : va_D A [(o, .inr (10, [.ref q_1, .ref q_2, .ref q_3, .int 0])), (q_1, .inl (cI, 256, .inl (fun _ => 0))), (q_2, .inl (cI, 512, .inl (fun _ => 0))), (q_3, .inl (cI, 512, .inl (fun _ => 0)))] := hDn
  have hS := hSn
  clear hPn hDn hSn
  refine lv_aload_n hx hb dX10_init_31 rfl (lv_at hl 0 rfl) ?_
  refine va_get (D := (dC, dI)) (ci := 10) (v := .ref q_1) (C := RX10) (T := TX10) (N := 4) hx hb hts in_X10 hown hK hP 0 rfl rfl 0 (by decide) (hts (.fieldLink RX10 9 "TextMender$ToldCode" "letterOf" "[I") (List.mem_of_getElem? (i := 5) rfl)) (fun _ h9 => h9) rfl dX10_init_32 ?_
  refine lv_iconst (v := (-1)) hx hb dX10_init_35 (by decide) ?_
  have hPc := hP.sub (ws' := [(q_1, .inl (cI, 256, .inl (fun _ => 0)))]) [1] rfl
  have hDc := hD.sub (ws' := [(q_1, .inl (cI, 256, .inl (fun _ => 0)))]) [1] (by decide +kernel) rfl
  have hFc := va_free (wc := [(q_1, .inl (cI, 256, .inl (fun _ => 0)))]) hD hS hA [1] rfl
  refine va_callv (va_runS (As := [.ref q_1, .int (-1)]) (rest := []) ⟨hx, hb, hml, hown, hts⟩ (k_J7_fill_53178 l dC dI cI cS H.size q_1 256 (-1) (fun _ => 0) (by decide)) (va_cwS 2 hts gX10_init_J7_fill_53178 rfl rfl rfl (by decide +kernel) ⟨Nat.le_of_ble_eq_true rfl, Nat.le_of_ble_eq_true rfl⟩) ⟨fun a U g mk q => by obtain ⟨q0, q1, qP, qK, qD⟩ := q; exact ⟨q0, q1, qP, va_K.moved (u := U) (U := U.calling g mk a) (Vm.Alike.refl U.vm) qK, qD⟩, fun U hU hW => ⟨rfl, by rw [hU], by rw [hU]; exact hPc, va_K.moved hW.alike hK, hDc.weaken (fun _ _ _ _ => trivial)⟩⟩ rfl rfl hl.1 rfl (lv_room (Nat.le_of_ble_eq_true rfl)) dX10_init_36 ⟨Nat.le_of_ble_eq_true rfl, Nat.le_of_ble_eq_true rfl⟩) hS (fun q _ h => hFc q h) hFc (fun u t H1 locs ht hvm hw hB hz1 hk1 hSn => ?_)
  refine And.elim (fun hP1 hD1 => ?_) hB
  clear hB
  rw [ht] at hP1
  obtain ⟨hPn, hDn⟩ := va_join (wr := [(o, .inr (10, [.ref q_1, .ref q_2, .ref q_3, .int 0])), (q_2, .inl (cI, 512, .inl (fun _ => 0))), (q_3, .inl (cI, 512, .inl (fun _ => 0)))]) (w1 := [(q_1, .inl (cI, 256, .inl (fun _ => (-1))))]) hP hD [1] [0, 2, 3] rfl rfl (by decide +kernel) (by decide +kernel) hk1 hFc hP1 hD1
  clear hP hD hS hPc hDc hFc hk1 hz1 hvm ht hP1 hD1
  generalize H1 = H at hPn hSn ⊢
  have hP : va_P (dC, dI) vwCl [(o, .inr (10, [.ref q_1, .ref q_2, .ref q_3, .int 0])), (q_2, .inl (cI, 512, .inl (fun _ => 0))), (q_3, .inl (cI, 512, .inl (fun _ => 0))), (q_1, .inl (cI, 256, .inl (fun _ => (-1))))] H := hPn
  have hD : va_D A [(o, .inr (10, [.ref q_1, .ref q_2, .ref q_3, .int 0])), (q_2, .inl (cI, 512, .inl (fun _ => 0))), (q_3, .inl (cI, 512, .inl (fun _ => 0))), (q_1, .inl (cI, 256, .inl (fun _ => (-1))))] := hDn
  have hS := hSn
  clear hPn hDn hSn
  refine lv_aload_n hx hb dX10_init_39 rfl (lv_at hl 0 rfl) ?_
  refine va_get (D := (dC, dI)) (ci := 10) (v := .ref q_3) (C := RX10) (T := TX10) (N := 4) hx hb hts in_X10 hown hK hP 0 rfl rfl 2 (by decide) (hts (.fieldLink RX10 18 "TextMender$ToldCode" "placeByte" "[I") (List.mem_of_getElem? (i := 7) rfl)) (fun _ h9 => h9) rfl dX10_init_40 ?_
  refine lv_iconst (v := (-1)) hx hb dX10_init_43 (by decide) ?_
  have hPc := hP.sub (ws' := [(q_3, .inl (cI, 512, .inl (fun _ => 0)))]) [2] rfl
  have hDc := hD.sub (ws' := [(q_3, .inl (cI, 512, .inl (fun _ => 0)))]) [2] (by decide +kernel) rfl
  have hFc := va_free (wc := [(q_3, .inl (cI, 512, .inl (fun _ => 0)))]) hD hS hA [2] rfl
  refine va_callv (va_runS (As := [.ref q_3, .int (-1)]) (rest := []) ⟨hx, hb, hml, hown, hts⟩ (k_J7_fill_53178 l dC dI cI cS H.size q_3 512 (-1) (fun _ => 0) (by decide)) (va_cwS 2 hts gX10_init_J7_fill_53178 rfl rfl rfl (by decide +kernel) ⟨Nat.le_of_ble_eq_true rfl, Nat.le_of_ble_eq_true rfl⟩) ⟨fun a U g mk q => by obtain ⟨q0, q1, qP, qK, qD⟩ := q; exact ⟨q0, q1, qP, va_K.moved (u := U) (U := U.calling g mk a) (Vm.Alike.refl U.vm) qK, qD⟩, fun U hU hW => ⟨rfl, by rw [hU], by rw [hU]; exact hPc, va_K.moved hW.alike hK, hDc.weaken (fun _ _ _ _ => trivial)⟩⟩ rfl rfl hl.1 rfl (lv_room (Nat.le_of_ble_eq_true rfl)) dX10_init_44 ⟨Nat.le_of_ble_eq_true rfl, Nat.le_of_ble_eq_true rfl⟩) hS (fun q _ h => hFc q h) hFc (fun u t H1 locs ht hvm hw hB hz1 hk1 hSn => ?_)
  refine And.elim (fun hP1 hD1 => ?_) hB
  clear hB
  rw [ht] at hP1
  obtain ⟨hPn, hDn⟩ := va_join (wr := [(o, .inr (10, [.ref q_1, .ref q_2, .ref q_3, .int 0])), (q_2, .inl (cI, 512, .inl (fun _ => 0))), (q_1, .inl (cI, 256, .inl (fun _ => (-1))))]) (w1 := [(q_3, .inl (cI, 512, .inl (fun _ => (-1))))]) hP hD [2] [0, 1, 3] rfl rfl (by decide +kernel) (by decide +kernel) hk1 hFc hP1 hD1
  clear hP hD hS hPc hDc hFc hk1 hz1 hvm ht hP1 hD1
  generalize H1 = H at hPn hSn ⊢
  have hP : va_P (dC, dI) vwCl [(o, .inr (10, [.ref q_1, .ref q_2, .ref q_3, .int 0])), (q_2, .inl (cI, 512, .inl (fun _ => 0))), (q_1, .inl (cI, 256, .inl (fun _ => (-1)))), (q_3, .inl (cI, 512, .inl (fun _ => (-1))))] H := hPn
  have hD : va_D A [(o, .inr (10, [.ref q_1, .ref q_2, .ref q_3, .int 0])), (q_2, .inl (cI, 512, .inl (fun _ => 0))), (q_1, .inl (cI, 256, .inl (fun _ => (-1)))), (q_3, .inl (cI, 512, .inl (fun _ => (-1))))] := hDn
  have hS := hSn
  clear hPn hDn hSn
  refine lv_aload_n hx hb dX10_init_47 rfl (lv_at hl 0 rfl) ?_
  refine lv_iconst (v := 0) hx hb dX10_init_48 (by decide) ?_
  refine va_put (D := (dC, dI)) (ci := 10) (v := .int 0) (ty := .int) (C := RX10) (T := TX10) (N := 4) hx hb hts in_X10 tyX10 tyX10_ok nmX10 hown hK hP hD hS 0 rfl rfl 3 (by decide) (hts (.fieldLink RX10 27 "TextMender$ToldCode" "length" "I") (List.mem_of_getElem? (i := 8) rfl)) (fun _ h9 => h9) rfl (tyX10_ok 3 (Nat.le_of_ble_eq_true rfl)) rfl rfl (Nat.le_of_ble_eq_true rfl) dX10_init_49 (fun H locs hPn hDn hSn => ?_)
  clear hP hD hS
  have hP : va_P (dC, dI) vwCl [(o, .inr (10, [.ref q_1, .ref q_2, .ref q_3, .int 0])), (q_2, .inl (cI, 512, .inl (fun _ => 0))), (q_1, .inl (cI, 256, .inl (fun _ => (-1)))), (q_3, .inl (cI, 512, .inl (fun _ => (-1))))] H := hPn
  have hD : va_D A [(o, .inr (10, [.ref q_1, .ref q_2, .ref q_3, .int 0])), (q_2, .inl (cI, 512, .inl (fun _ => 0))), (q_1, .inl (cI, 256, .inl (fun _ => (-1)))), (q_3, .inl (cI, 512, .inl (fun _ => (-1))))] := hDn
  have hS := hSn
  clear hPn hDn hSn
  have hP9 := hP.sub (ws' := [(o, .inr (10, [.ref q_1, .ref q_2, .ref q_3, .int 0])), (q_1, .inl (cI, 256, .inl (fun _ => (-1)))), (q_2, .inl (cI, 512, .inl (fun _ => 0))), (q_3, .inl (cI, 512, .inl (fun _ => (-1))))]) [0, 2, 1, 3] rfl
  have hD9 := hD.sub (ws' := [(o, .inr (10, [.ref q_1, .ref q_2, .ref q_3, .int 0])), (q_1, .inl (cI, 256, .inl (fun _ => (-1)))), (q_2, .inl (cI, 512, .inl (fun _ => 0))), (q_3, .inl (cI, 512, .inl (fun _ => (-1))))]) [0, 2, 1, 3] (by decide +kernel) rfl
  refine W.widen (k := 3) (n := 1280) (by omega) (by omega) ?_
  exact W.vret hx hb hr (fun t ht hW => ⟨⟨(), rfl, trivial, q_1, q_2, q_3, by rw [ht]; exact hP9, hD9⟩, hS.F ht⟩) (hS.2.2) dX10_init_52

set_option maxHeartbeats 4000000 in
set_option maxRecDepth 100000 in
theorem k_X2_init (l : Launch) (dC : Nat → ClassId) (dI : Nat → Nat → Nat) (cI cS : ClassId) (sz : Nat) (o : Nat)  : Met l yX2_init wsX2_init ({ frames := 2, cells := 8, slots := 2568, locals := 43 } : Room) (va_Pc [.ref o] (fun U => U.heap.size = sz ∧ va_P (dC, dI) vwCl [(o, .inr (2, [.null, .null]))] U.heap ∧ va_K (dC, dI) vwCl [(cI, .int), (cS, .short)] U ∧ va_D (fun _ => True) [(o, .inr (2, [.null, .null]))])) (va_Qv (fun (_ : Unit) => True) (fun _ t => ∃ (o4 : Nat) (a41 : Nat) (a42 : Nat) (a43 : Nat) (o5 : Nat) (a51 : Nat) (a52 : Nat) (a53 : Nat), va_P (dC, dI) vwCl [(o, .inr (2, [.ref o4, .ref o5])), (o4, .inr (10, [.ref a41, .ref a42, .ref a43, .int 0])), (a41, .inl (cI, 256, .inl (fun _ => (-1)))), (a42, .inl (cI, 512, .inl (fun _ => 0))), (a43, .inl (cI, 512, .inl (fun _ => (-1)))), (o5, .inr (10, [.ref a51, .ref a52, .ref a53, .int 0])), (a51, .inl (cI, 256, .inl (fun _ => (-1)))), (a52, .inl (cI, 512, .inl (fun _ => 0))), (a53, .inl (cI, 512, .inl (fun _ => (-1))))] t.heap ∧ va_D (va_A [(o, .inr (2, [.null, .null]))] sz) [(o, .inr (2, [.ref o4, .ref o5])), (o4, .inr (10, [.ref a41, .ref a42, .ref a43, .int 0])), (a41, .inl (cI, 256, .inl (fun _ => (-1)))), (a42, .inl (cI, 512, .inl (fun _ => 0))), (a43, .inl (cI, 512, .inl (fun _ => (-1)))), (o5, .inr (10, [.ref a51, .ref a52, .ref a53, .int 0])), (a51, .inl (cI, 256, .inl (fun _ => (-1)))), (a52, .inl (cI, 512, .inl (fun _ => 0))), (a53, .inl (cI, 512, .inl (fun _ => (-1))))]) (va_A [(o, .inr (2, [.null, .null]))] sz)) 8 2568 (va_A [(o, .inr (2, [.null, .null]))] sz) := by
  refine Met.ofW (cc := cX2_init) (maxL := 1) (ret := none) (by decide) rfl ?_
  intro p e s m args below meth c s₁ B hml hv
  obtain ⟨rfl, hsz, hP, hK, hD0⟩ := hv
  have hx := B.exec
  have hb := B.bytes
  have hr := B.returns
  have hts := atoms_spec (ws := wsX2_init) B.pre
  have hown : s.vm.findClass RX2 = some m.cls := findClass_of_methodNamed B.named
  have hlocks := B.notSynchronized
  have hin : meth.name = "<init>" := (name_of_methodNamed B.named B.method).1
  have in_X10 : ∀ w ∈ wsX100, w ∈ wsX2_init := fun _ h => List.mem_cons_of_mem _ (List.mem_append_left _ (List.mem_append_left _ (List.mem_append_right _ (h))))
  have in_X2 : ∀ w ∈ wsX20, w ∈ wsX2_init := fun _ h => List.mem_cons_of_mem _ (List.mem_append_left _ (List.mem_append_right _ (h)))
  subst hsz
  have hD := hD0.self (sz := s.heap.size)
  generalize hAe : va_A [(o, .inr (2, [.null, .null]))] s.heap.size = A at hD ⊢
  have hA : ∀ q : Nat, s.heap.size ≤ q → A q := fun q h => by rw [← hAe]; exact Or.inr h
  have hS : va_S A s.heap s.heap [] := va_S.rf
  have hP : va_P (dC, dI) vwCl [(o, .inr (2, [.null, .null]))] s.heap := hP
  have hl := lv_entry ([.ref o]) (n := 1) (Nat.le_of_ble_eq_true rfl)
  rw [lg_entry_eq]
  generalize (lg_sl ([.ref o]) ++ List.replicate (1 - (lg_sl ([.ref o])).length) Slot.unset).toArray = ls at hl ⊢
  have hl : lv_has ls 1 [(0, .ref o)] := hl
  refine lv_aload_n hx hb dX2_init_0 rfl (lv_at hl 0 rfl) ?_
  refine W.objInit hx hb hown (hts (.methodLink RX2 3 objectInit) (List.mem_of_getElem? (i := 1) rfl)) (hts (.instanceMethod objectInit) (List.mem_of_getElem? (i := 2) rfl)) (hts (.code objectInit ⟨#[0xb1]⟩ 1 none) (List.mem_of_getElem? (i := 3) rfl)) rfl (by rw [hml]; exact hl.1) rfl dX2_init_1 (Nat.le_of_ble_eq_true rfl) (Nat.le_of_ble_eq_true rfl) ?_
  refine W.eq (g2 := F0 m 4 ls []) rfl ?_
  refine lv_aload_n hx hb dX2_init_4 rfl (lv_at hl 0 rfl) ?_
  refine va_new (ci := 10) (fs := [.null, .null, .null, .int 0]) (C := RX10) (T := TX10) (N := 4) hx hb hts in_X10 tyX10 tyX10_ok hown (hts (.classLink RX2 9 RX10) (List.mem_of_getElem? (i := 4) rfl)) (hts (.instantiable RX10 4) (List.mem_of_getElem? (i := 5) rfl)) (hts (.initialized RX10) (List.mem_of_getElem? (i := 6) rfl)) hK hP hD hS hA rfl (p_fsX10) (Nat.le_of_ble_eq_true rfl) (Nat.le_of_ble_eq_true rfl) dX2_init_5 (fun q_1 H hPn hDn hSn => ?_)
  clear hP hD hS
  have hP : va_P (dC, dI) vwCl [(o, .inr (2, [.null, .null])), (q_1, .inr (10, [.null, .null, .null, .int 0]))] H := hPn
  have hD : va_D A [(o, .inr (2, [.null, .null])), (q_1, .inr (10, [.null, .null, .null, .int 0]))] := hDn
  have hS := hSn
  clear hPn hDn hSn
  refine W.widen (k := 1) (n := 4) (Nat.le_of_ble_eq_true rfl) (Nat.le_of_ble_eq_true rfl) ?_
  refine lv_dup hx hb dX2_init_8 rfl ?_
  have hPc := hP.sub (ws' := [(q_1, .inr (10, [.null, .null, .null, .int 0]))]) [1] rfl
  have hDc := hD.sub (ws' := [(q_1, .inr (10, [.null, .null, .null, .int 0]))]) [1] (by decide +kernel) rfl
  have hFc := va_free (wc := [(q_1, .inr (10, [.null, .null, .null, .int 0]))]) hD hS hA [1] rfl
  refine va_callv (va_runI (As := []) (rest := [.ref q_1, .ref o]) ⟨hx, hb, hml, hown, hts⟩ (k_X10_init l dC dI cI cS H.size q_1 ) (cwI 0 hts gX2_init_X10_init rfl rfl rfl (hts (.initialized RX10) (List.mem_of_getElem? (i := 6) rfl)) (hts (.methodLink RX2 11 yX10_init) (List.mem_of_getElem? (i := 9) rfl)) (hts (.instanceMethod yX10_init) (List.mem_of_getElem? (i := 10) rfl)) rfl (by decide +kernel) ⟨Nat.le_of_ble_eq_true rfl, Nat.le_of_ble_eq_true rfl⟩) ⟨fun a U g mk q => by obtain ⟨q0, q1, qP, qK, qD⟩ := q; exact ⟨q0, q1, qP, va_K.moved (u := U) (U := U.calling g mk a) (Vm.Alike.refl U.vm) qK, qD⟩, fun U hU hW => ⟨rfl, by rw [hU], by rw [hU]; exact hPc, va_K.moved hW.alike hK, hDc.weaken (fun _ _ _ _ => trivial)⟩⟩ rfl rfl hl.1 rfl (lv_room (Nat.le_of_ble_eq_true rfl)) dX2_init_9 ⟨Nat.le_of_ble_eq_true rfl, Nat.le_of_ble_eq_true rfl⟩) hS (fun q _ h => hFc q h) hFc (fun u t H1 locs ht hvm hw hB hz1 hk1 hSn => ?_)
  refine Exists.elim hB (fun a1_2 hB2_0 => ?_)
  refine Exists.elim hB2_0 (fun a2_2 hB2_1 => ?_)
  refine Exists.elim hB2_1 (fun a3_2 hB2_2 => ?_)
  refine And.elim (fun hP1 hD1 => ?_) hB2_2
  clear hB hB2_0 hB2_1 hB2_2
  rw [ht] at hP1
  obtain ⟨hPn, hDn⟩ := va_join (wr := [(o, .inr (2, [.null, .null]))]) (w1 := [(q_1, .inr (10, [.ref a1_2, .ref a2_2, .ref a3_2, .int 0])), (a1_2, .inl (cI, 256, .inl (fun _ => (-1)))), (a2_2, .inl (cI, 512, .inl (fun _ => 0))), (a3_2, .inl (cI, 512, .inl (fun _ => (-1))))]) hP hD [1] [0] rfl rfl (by decide +kernel) (by decide +kernel) hk1 hFc hP1 hD1
  clear hP hD hS hPc hDc hFc hk1 hz1 hvm ht hP1 hD1
  generalize H1 = H at hPn hSn ⊢
  have hP : va_P (dC, dI) vwCl [(o, .inr (2, [.null, .null])), (q_1, .inr (10, [.ref a1_2, .ref a2_2, .ref a3_2, .int 0])), (a1_2, .inl (cI, 256, .inl (fun _ => (-1)))), (a2_2, .inl (cI, 512, .inl (fun _ => 0))), (a3_2, .inl (cI, 512, .inl (fun _ => (-1))))] H := hPn
  have hD : va_D A [(o, .inr (2, [.null, .null])), (q_1, .inr (10, [.ref a1_2, .ref a2_2, .ref a3_2, .int 0])), (a1_2, .inl (cI, 256, .inl (fun _ => (-1)))), (a2_2, .inl (cI, 512, .inl (fun _ => 0))), (a3_2, .inl (cI, 512, .inl (fun _ => (-1))))] := hDn
  have hS := hSn
  clear hPn hDn hSn
  refine W.widen (k := 4) (n := 1284) (Nat.le_of_ble_eq_true rfl) (Nat.le_of_ble_eq_true rfl) ?_
  refine va_putF (D := (dC, dI)) (ci := 2) (v := .ref q_1) (ty := .object "TextMender$ToldCode") (C := RX2) (T := TX2) (N := 2) hx hb hts in_X2 tyX2 tyX2_ok nmX2 hown hK hP hD hS 0 rfl rfl 0 (by decide) (hts (.fieldLink RX2 12 "TextMender$Codes" "four" "LTextMender$ToldCode;") (List.mem_of_getElem? (i := 7) rfl)) (fun _ h9 => h9) rfl hin rfl (tyX2_ok 0 (Nat.le_of_ble_eq_true rfl)) rfl rfl (Nat.le_of_ble_eq_true rfl) dX2_init_12 (fun H locs hPn hDn hSn => ?_)
  clear hP hD hS
  have hP : va_P (dC, dI) vwCl [(o, .inr (2, [.ref q_1, .null])), (q_1, .inr (10, [.ref a1_2, .ref a2_2, .ref a3_2, .int 0])), (a1_2, .inl (cI, 256, .inl (fun _ => (-1)))), (a2_2, .inl (cI, 512, .inl (fun _ => 0))), (a3_2, .inl (cI, 512, .inl (fun _ => (-1))))] H := hPn
  have hD : va_D A [(o, .inr (2, [.ref q_1, .null])), (q_1, .inr (10, [.ref a1_2, .ref a2_2, .ref a3_2, .int 0])), (a1_2, .inl (cI, 256, .inl (fun _ => (-1)))), (a2_2, .inl (cI, 512, .inl (fun _ => 0))), (a3_2, .inl (cI, 512, .inl (fun _ => (-1))))] := hDn
  have hS := hSn
  clear hPn hDn hSn
  refine lv_aload_n hx hb dX2_init_15 rfl (lv_at hl 0 rfl) ?_
  refine va_new (ci := 10) (fs := [.null, .null, .null, .int 0]) (C := RX10) (T := TX10) (N := 4) hx hb hts in_X10 tyX10 tyX10_ok hown (hts (.classLink RX2 9 RX10) (List.mem_of_getElem? (i := 4) rfl)) (hts (.instantiable RX10 4) (List.mem_of_getElem? (i := 5) rfl)) (hts (.initialized RX10) (List.mem_of_getElem? (i := 6) rfl)) hK hP hD hS hA rfl (p_fsX10) (Nat.le_of_ble_eq_true rfl) (Nat.le_of_ble_eq_true rfl) dX2_init_16 (fun q_3 H hPn hDn hSn => ?_)
  clear hP hD hS
  have hP : va_P (dC, dI) vwCl [(o, .inr (2, [.ref q_1, .null])), (q_1, .inr (10, [.ref a1_2, .ref a2_2, .ref a3_2, .int 0])), (a1_2, .inl (cI, 256, .inl (fun _ => (-1)))), (a2_2, .inl (cI, 512, .inl (fun _ => 0))), (a3_2, .inl (cI, 512, .inl (fun _ => (-1)))), (q_3, .inr (10, [.null, .null, .null, .int 0]))] H := hPn
  have hD : va_D A [(o, .inr (2, [.ref q_1, .null])), (q_1, .inr (10, [.ref a1_2, .ref a2_2, .ref a3_2, .int 0])), (a1_2, .inl (cI, 256, .inl (fun _ => (-1)))), (a2_2, .inl (cI, 512, .inl (fun _ => 0))), (a3_2, .inl (cI, 512, .inl (fun _ => (-1)))), (q_3, .inr (10, [.null, .null, .null, .int 0]))] := hDn
  have hS := hSn
  clear hPn hDn hSn
  refine W.widen (k := 5) (n := 1288) (Nat.le_of_ble_eq_true rfl) (Nat.le_of_ble_eq_true rfl) ?_
  refine lv_dup hx hb dX2_init_19 rfl ?_
  have hPc := hP.sub (ws' := [(q_3, .inr (10, [.null, .null, .null, .int 0]))]) [5] rfl
  have hDc := hD.sub (ws' := [(q_3, .inr (10, [.null, .null, .null, .int 0]))]) [5] (by decide +kernel) rfl
  have hFc := va_free (wc := [(q_3, .inr (10, [.null, .null, .null, .int 0]))]) hD hS hA [5] rfl
  refine va_callv (va_runI (As := []) (rest := [.ref q_3, .ref o]) ⟨hx, hb, hml, hown, hts⟩ (k_X10_init l dC dI cI cS H.size q_3 ) (cwI 0 hts gX2_init_X10_init rfl rfl rfl (hts (.initialized RX10) (List.mem_of_getElem? (i := 6) rfl)) (hts (.methodLink RX2 11 yX10_init) (List.mem_of_getElem? (i := 9) rfl)) (hts (.instanceMethod yX10_init) (List.mem_of_getElem? (i := 10) rfl)) rfl (by decide +kernel) ⟨Nat.le_of_ble_eq_true rfl, Nat.le_of_ble_eq_true rfl⟩) ⟨fun a U g mk q => by obtain ⟨q0, q1, qP, qK, qD⟩ := q; exact ⟨q0, q1, qP, va_K.moved (u := U) (U := U.calling g mk a) (Vm.Alike.refl U.vm) qK, qD⟩, fun U hU hW => ⟨rfl, by rw [hU], by rw [hU]; exact hPc, va_K.moved hW.alike hK, hDc.weaken (fun _ _ _ _ => trivial)⟩⟩ rfl rfl hl.1 rfl (lv_room (Nat.le_of_ble_eq_true rfl)) dX2_init_20 ⟨Nat.le_of_ble_eq_true rfl, Nat.le_of_ble_eq_true rfl⟩) hS (fun q _ h => hFc q h) hFc (fun u t H1 locs ht hvm hw hB hz1 hk1 hSn => ?_)
  refine Exists.elim hB (fun a1_4 hB4_0 => ?_)
  refine Exists.elim hB4_0 (fun a2_4 hB4_1 => ?_)
  refine Exists.elim hB4_1 (fun a3_4 hB4_2 => ?_)
  refine And.elim (fun hP1 hD1 => ?_) hB4_2
  clear hB hB4_0 hB4_1 hB4_2
  rw [ht] at hP1
  obtain ⟨hPn, hDn⟩ := va_join (wr := [(o, .inr (2, [.ref q_1, .null])), (q_1, .inr (10, [.ref a1_2, .ref a2_2, .ref a3_2, .int 0])), (a1_2, .inl (cI, 256, .inl (fun _ => (-1)))), (a2_2, .inl (cI, 512, .inl (fun _ => 0))), (a3_2, .inl (cI, 512, .inl (fun _ => (-1))))]) (w1 := [(q_3, .inr (10, [.ref a1_4, .ref a2_4, .ref a3_4, .int 0])), (a1_4, .inl (cI, 256, .inl (fun _ => (-1)))), (a2_4, .inl (cI, 512, .inl (fun _ => 0))), (a3_4, .inl (cI, 512, .inl (fun _ => (-1))))]) hP hD [5] [0, 1, 2, 3, 4] rfl rfl (by decide +kernel) (by decide +kernel) hk1 hFc hP1 hD1
  clear hP hD hS hPc hDc hFc hk1 hz1 hvm ht hP1 hD1
  generalize H1 = H at hPn hSn ⊢
  have hP : va_P (dC, dI) vwCl [(o, .inr (2, [.ref q_1, .null])), (q_1, .inr (10, [.ref a1_2, .ref a2_2, .ref a3_2, .int 0])), (a1_2, .inl (cI, 256, .inl (fun _ => (-1)))), (a2_2, .inl (cI, 512, .inl (fun _ => 0))), (a3_2, .inl (cI, 512, .inl (fun _ => (-1)))), (q_3, .inr (10, [.ref a1_4, .ref a2_4, .ref a3_4, .int 0])), (a1_4, .inl (cI, 256, .inl (fun _ => (-1)))), (a2_4, .inl (cI, 512, .inl (fun _ => 0))), (a3_4, .inl (cI, 512, .inl (fun _ => (-1))))] H := hPn
  have hD : va_D A [(o, .inr (2, [.ref q_1, .null])), (q_1, .inr (10, [.ref a1_2, .ref a2_2, .ref a3_2, .int 0])), (a1_2, .inl (cI, 256, .inl (fun _ => (-1)))), (a2_2, .inl (cI, 512, .inl (fun _ => 0))), (a3_2, .inl (cI, 512, .inl (fun _ => (-1)))), (q_3, .inr (10, [.ref a1_4, .ref a2_4, .ref a3_4, .int 0])), (a1_4, .inl (cI, 256, .inl (fun _ => (-1)))), (a2_4, .inl (cI, 512, .inl (fun _ => 0))), (a3_4, .inl (cI, 512, .inl (fun _ => (-1))))] := hDn
  have hS := hSn
  clear hPn hDn hSn
  refine W.widen (k := 8) (n := 2568) (Nat.le_of_ble_eq_true rfl) (Nat.le_of_ble_eq_true rfl) ?_
  refine va_putF (D := (dC, dI)) (ci := 2) (v := .ref q_3) (ty := .object "TextMender$ToldCode") (C := RX2) (T := TX2) (N := 2) hx hb hts in_X2 tyX2 tyX2_ok nmX2 hown hK hP hD hS 0 rfl rfl 1 (by decide) (hts (.fieldLink RX2 18 "TextMender$Codes" "five" "LTextMender$ToldCode;") (List.mem_of_getElem? (i := 8) rfl)) (fun _ h9 => h9) rfl hin rfl (tyX2_ok 1 (Nat.le_of_ble_eq_true rfl)) rfl rfl (Nat.le_of_ble_eq_true rfl) dX2_init_23 (fun H locs hPn hDn hSn => ?_)
  clear hP hD hS
  have hP : va_P (dC, dI) vwCl [(o, .inr (2, [.ref q_1, .ref q_3])), (q_1, .inr (10, [.ref a1_2, .ref a2_2, .ref a3_2, .int 0])), (a1_2, .inl (cI, 256, .inl (fun _ => (-1)))), (a2_2, .inl (cI, 512, .inl (fun _ => 0))), (a3_2, .inl (cI, 512, .inl (fun _ => (-1)))), (q_3, .inr (10, [.ref a1_4, .ref a2_4, .ref a3_4, .int 0])), (a1_4, .inl (cI, 256, .inl (fun _ => (-1)))), (a2_4, .inl (cI, 512, .inl (fun _ => 0))), (a3_4, .inl (cI, 512, .inl (fun _ => (-1))))] H := hPn
  have hD : va_D A [(o, .inr (2, [.ref q_1, .ref q_3])), (q_1, .inr (10, [.ref a1_2, .ref a2_2, .ref a3_2, .int 0])), (a1_2, .inl (cI, 256, .inl (fun _ => (-1)))), (a2_2, .inl (cI, 512, .inl (fun _ => 0))), (a3_2, .inl (cI, 512, .inl (fun _ => (-1)))), (q_3, .inr (10, [.ref a1_4, .ref a2_4, .ref a3_4, .int 0])), (a1_4, .inl (cI, 256, .inl (fun _ => (-1)))), (a2_4, .inl (cI, 512, .inl (fun _ => 0))), (a3_4, .inl (cI, 512, .inl (fun _ => (-1))))] := hDn
  have hS := hSn
  clear hPn hDn hSn
  have hP9 := hP.sub (ws' := [(o, .inr (2, [.ref q_1, .ref q_3])), (q_1, .inr (10, [.ref a1_2, .ref a2_2, .ref a3_2, .int 0])), (a1_2, .inl (cI, 256, .inl (fun _ => (-1)))), (a2_2, .inl (cI, 512, .inl (fun _ => 0))), (a3_2, .inl (cI, 512, .inl (fun _ => (-1)))), (q_3, .inr (10, [.ref a1_4, .ref a2_4, .ref a3_4, .int 0])), (a1_4, .inl (cI, 256, .inl (fun _ => (-1)))), (a2_4, .inl (cI, 512, .inl (fun _ => 0))), (a3_4, .inl (cI, 512, .inl (fun _ => (-1))))]) [0, 1, 2, 3, 4, 5, 6, 7, 8] rfl
  have hD9 := hD.sub (ws' := [(o, .inr (2, [.ref q_1, .ref q_3])), (q_1, .inr (10, [.ref a1_2, .ref a2_2, .ref a3_2, .int 0])), (a1_2, .inl (cI, 256, .inl (fun _ => (-1)))), (a2_2, .inl (cI, 512, .inl (fun _ => 0))), (a3_2, .inl (cI, 512, .inl (fun _ => (-1)))), (q_3, .inr (10, [.ref a1_4, .ref a2_4, .ref a3_4, .int 0])), (a1_4, .inl (cI, 256, .inl (fun _ => (-1)))), (a2_4, .inl (cI, 512, .inl (fun _ => 0))), (a3_4, .inl (cI, 512, .inl (fun _ => (-1))))]) [0, 1, 2, 3, 4, 5, 6, 7, 8] (by decide +kernel) rfl
  refine W.widen (k := 8) (n := 2568) (by omega) (by omega) ?_
  exact W.vret hx hb hr (fun t ht hW => ⟨⟨(), rfl, trivial, q_1, a1_2, a2_2, a3_2, q_3, a1_4, a2_4, a3_4, by rw [ht]; exact hP9, hD9⟩, hS.F ht⟩) (hS.2.2) dX2_init_26

set_option maxHeartbeats 4000000 in
set_option maxRecDepth 100000 in
theorem k_X7_init (l : Launch) (dC : Nat → ClassId) (dI : Nat → Nat → Nat) (cI cS : ClassId) (sz : Nat) (o : Nat) (oC : Nat)  : Met l yX7_init wsX7_init ({ frames := 2, cells := 2, slots := 2402, locals := 42 } : Room) (va_Pc [.ref o, .ref oC] (fun U => U.heap.size = sz ∧ va_P (dC, dI) vwCl [(o, .inr (7, [.null, .null, .int 0]))] U.heap ∧ va_K (dC, dI) vwCl [(cI, .int), (cS, .short)] U ∧ va_D (fun _ => True) [(o, .inr (7, [.null, .null, .int 0]))])) (va_Qv (fun (_ : Unit) => True) (fun _ t => ∃ (nB : Nat) (aB : Nat), va_P (dC, dI) vwCl [(o, .inr (7, [.ref oC, .ref nB, .int (-1)])), (nB, .inr (5, [.ref aB, .int 0])), (aB, .inl (cI, 2400, .inl (fun _ => 0)))] t.heap ∧ va_D (va_A [(o, .inr (7, [.null, .null, .int 0]))] sz) [(o, .inr (7, [.ref oC, .ref nB, .int (-1)])), (nB, .inr (5, [.ref aB, .int 0])), (aB, .inl (cI, 2400, .inl (fun _ => 0)))]) (va_A [(o, .inr (7, [.null, .null, .int 0]))] sz)) 2 2402 (va_A [(o, .inr (7, [.null, .null, .int 0]))] sz) := by
  refine Met.ofW (cc := cX7_init) (maxL := 2) (ret := none) (by decide) rfl ?_
  intro p e s m args below meth c s₁ B hml hv
  obtain ⟨rfl, hsz, hP, hK, hD0⟩ := hv
  have hx := B.exec
  have hb := B.bytes
  have hr := B.returns
  have hts := atoms_spec (ws := wsX7_init) B.pre
  have hown : s.vm.findClass RX7 = some m.cls := findClass_of_methodNamed B.named
  have hlocks := B.notSynchronized
  have hin : meth.name = "<init>" := (name_of_methodNamed B.named B.method).1
  have in_X5 : ∀ w ∈ wsX50, w ∈ wsX7_init := fun _ h => List.mem_cons_of_mem _ (List.mem_append_left _ (List.mem_append_left _ (List.mem_append_right _ (h))))
  have in_X7 : ∀ w ∈ wsX70, w ∈ wsX7_init := fun _ h => List.mem_cons_of_mem _ (List.mem_append_left _ (List.mem_append_right _ (h)))
  subst hsz
  have hD := hD0.self (sz := s.heap.size)
  generalize hAe : va_A [(o, .inr (7, [.null, .null, .int 0]))] s.heap.size = A at hD ⊢
  have hA : ∀ q : Nat, s.heap.size ≤ q → A q := fun q h => by rw [← hAe]; exact Or.inr h
  have hS : va_S A s.heap s.heap [] := va_S.rf
  have hP : va_P (dC, dI) vwCl [(o, .inr (7, [.null, .null, .int 0]))] s.heap := hP
  have hl := lv_entry ([.ref o, .ref oC]) (n := 2) (Nat.le_of_ble_eq_true rfl)
  rw [lg_entry_eq]
  generalize (lg_sl ([.ref o, .ref oC]) ++ List.replicate (2 - (lg_sl ([.ref o, .ref oC])).length) Slot.unset).toArray = ls at hl ⊢
  have hl : lv_has ls 2 [(0, .ref o), (1, .ref oC)] := hl
  refine lv_aload_n hx hb dX7_init_0 rfl (lv_at hl 0 rfl) ?_
  refine W.objInit hx hb hown (hts (.methodLink RX7 3 objectInit) (List.mem_of_getElem? (i := 1) rfl)) (hts (.instanceMethod objectInit) (List.mem_of_getElem? (i := 2) rfl)) (hts (.code objectInit ⟨#[0xb1]⟩ 1 none) (List.mem_of_getElem? (i := 3) rfl)) rfl (by rw [hml]; exact hl.1) rfl dX7_init_1 (Nat.le_of_ble_eq_true rfl) (Nat.le_of_ble_eq_true rfl) ?_
  refine W.eq (g2 := F0 m 4 ls []) rfl ?_
  refine lv_aload_n hx hb dX7_init_4 rfl (lv_at hl 0 rfl) ?_
  refine va_new (ci := 5) (fs := [.null, .int 0]) (C := RX5) (T := TX5) (N := 2) hx hb hts in_X5 tyX5 tyX5_ok hown (hts (.classLink RX7 9 RX5) (List.mem_of_getElem? (i := 4) rfl)) (hts (.instantiable RX5 2) (List.mem_of_getElem? (i := 5) rfl)) (hts (.initialized RX5) (List.mem_of_getElem? (i := 6) rfl)) hK hP hD hS hA rfl (p_fsX5) (Nat.le_of_ble_eq_true rfl) (Nat.le_of_ble_eq_true rfl) dX7_init_5 (fun q_1 H hPn hDn hSn => ?_)
  clear hP hD hS
  have hP : va_P (dC, dI) vwCl [(o, .inr (7, [.null, .null, .int 0])), (q_1, .inr (5, [.null, .int 0]))] H := hPn
  have hD : va_D A [(o, .inr (7, [.null, .null, .int 0])), (q_1, .inr (5, [.null, .int 0]))] := hDn
  have hS := hSn
  clear hPn hDn hSn
  refine W.widen (k := 1) (n := 2) (Nat.le_of_ble_eq_true rfl) (Nat.le_of_ble_eq_true rfl) ?_
  refine lv_dup hx hb dX7_init_8 rfl ?_
  refine lv_sipush (v := 2400) hx hb dX7_init_9 (by decide) ?_
  have hPc := hP.sub (ws' := [(q_1, .inr (5, [.null, .int 0]))]) [1] rfl
  have hDc := hD.sub (ws' := [(q_1, .inr (5, [.null, .int 0]))]) [1] (by decide +kernel) rfl
  have hFc := va_free (wc := [(q_1, .inr (5, [.null, .int 0]))]) hD hS hA [1] rfl
  refine va_callv (va_runI (As := [.int 2400]) (rest := [.ref q_1, .ref o]) ⟨hx, hb, hml, hown, hts⟩ (k_X5_init l dC dI cI cS H.size q_1 2400 2400 (by decide) (by decide) (by decide)) (cwI 1 hts gX7_init_X5_init rfl rfl rfl (hts (.initialized RX5) (List.mem_of_getElem? (i := 6) rfl)) (hts (.methodLink RX7 11 yX5_init) (List.mem_of_getElem? (i := 10) rfl)) (hts (.instanceMethod yX5_init) (List.mem_of_getElem? (i := 11) rfl)) rfl (by decide +kernel) ⟨Nat.le_of_ble_eq_true rfl, Nat.le_of_ble_eq_true rfl⟩) ⟨fun a U g mk q => by obtain ⟨q0, q1, qP, qK, qD⟩ := q; exact ⟨q0, q1, qP, va_K.moved (u := U) (U := U.calling g mk a) (Vm.Alike.refl U.vm) qK, qD⟩, fun U hU hW => ⟨rfl, by rw [hU], by rw [hU]; exact hPc, va_K.moved hW.alike hK, hDc.weaken (fun _ _ _ _ => trivial)⟩⟩ rfl rfl hl.1 rfl (lv_room (Nat.le_of_ble_eq_true rfl)) dX7_init_12 ⟨Nat.le_of_ble_eq_true rfl, Nat.le_of_ble_eq_true rfl⟩) hS (fun q _ h => hFc q h) hFc (fun u t H1 locs ht hvm hw hB hz1 hk1 hSn => ?_)
  refine Exists.elim hB (fun ar_2 hB2_0 => ?_)
  refine And.elim (fun hP1 hD1 => ?_) hB2_0
  clear hB hB2_0
  rw [ht] at hP1
  obtain ⟨hPn, hDn⟩ := va_join (wr := [(o, .inr (7, [.null, .null, .int 0]))]) (w1 := [(q_1, .inr (5, [.ref ar_2, .int 0])), (ar_2, .inl (cI, 2400, .inl (fun _ => 0)))]) hP hD [1] [0] rfl rfl (by decide +kernel) (by decide +kernel) hk1 hFc hP1 hD1
  clear hP hD hS hPc hDc hFc hk1 hz1 hvm ht hP1 hD1
  generalize H1 = H at hPn hSn ⊢
  have hP : va_P (dC, dI) vwCl [(o, .inr (7, [.null, .null, .int 0])), (q_1, .inr (5, [.ref ar_2, .int 0])), (ar_2, .inl (cI, 2400, .inl (fun _ => 0)))] H := hPn
  have hD : va_D A [(o, .inr (7, [.null, .null, .int 0])), (q_1, .inr (5, [.ref ar_2, .int 0])), (ar_2, .inl (cI, 2400, .inl (fun _ => 0)))] := hDn
  have hS := hSn
  clear hPn hDn hSn
  refine W.widen (k := 2) (n := 2402) (Nat.le_of_ble_eq_true rfl) (Nat.le_of_ble_eq_true rfl) ?_
  refine va_putF (D := (dC, dI)) (ci := 7) (v := .ref q_1) (ty := .object "TextMender$Numbers") (C := RX7) (T := TX7) (N := 3) hx hb hts in_X7 tyX7 tyX7_ok nmX7 hown hK hP hD hS 0 rfl rfl 1 (by decide) (hts (.fieldLink RX7 14 "TextMender$Passage" "bytes" "LTextMender$Numbers;") (List.mem_of_getElem? (i := 7) rfl)) (fun _ h9 => h9) rfl hin rfl (tyX7_ok 1 (Nat.le_of_ble_eq_true rfl)) rfl rfl (Nat.le_of_ble_eq_true rfl) dX7_init_15 (fun H locs hPn hDn hSn => ?_)
  clear hP hD hS
  have hP : va_P (dC, dI) vwCl [(o, .inr (7, [.null, .ref q_1, .int 0])), (q_1, .inr (5, [.ref ar_2, .int 0])), (ar_2, .inl (cI, 2400, .inl (fun _ => 0)))] H := hPn
  have hD : va_D A [(o, .inr (7, [.null, .ref q_1, .int 0])), (q_1, .inr (5, [.ref ar_2, .int 0])), (ar_2, .inl (cI, 2400, .inl (fun _ => 0)))] := hDn
  have hS := hSn
  clear hPn hDn hSn
  refine lv_aload_n hx hb dX7_init_18 rfl (lv_at hl 0 rfl) ?_
  refine lv_aload_n hx hb dX7_init_19 rfl (lv_at hl 1 rfl) ?_
  refine va_putF (D := (dC, dI)) (ci := 7) (v := .ref oC) (ty := .object "TextMender$Codes") (C := RX7) (T := TX7) (N := 3) hx hb hts in_X7 tyX7 tyX7_ok nmX7 hown hK hP hD hS 0 rfl rfl 0 (by decide) (hts (.fieldLink RX7 20 "TextMender$Passage" "codes" "LTextMender$Codes;") (List.mem_of_getElem? (i := 8) rfl)) (fun _ h9 => h9) rfl hin rfl (tyX7_ok 0 (Nat.le_of_ble_eq_true rfl)) rfl rfl (Nat.le_of_ble_eq_true rfl) dX7_init_20 (fun H locs hPn hDn hSn => ?_)
  clear hP hD hS
  have hP : va_P (dC, dI) vwCl [(o, .inr (7, [.ref oC, .ref q_1, .int 0])), (q_1, .inr (5, [.ref ar_2, .int 0])), (ar_2, .inl (cI, 2400, .inl (fun _ => 0)))] H := hPn
  have hD : va_D A [(o, .inr (7, [.ref oC, .ref q_1, .int 0])), (q_1, .inr (5, [.ref ar_2, .int 0])), (ar_2, .inl (cI, 2400, .inl (fun _ => 0)))] := hDn
  have hS := hSn
  clear hPn hDn hSn
  refine lv_aload_n hx hb dX7_init_23 rfl (lv_at hl 0 rfl) ?_
  refine lv_iconst (v := (-1)) hx hb dX7_init_24 (by decide) ?_
  refine va_put (D := (dC, dI)) (ci := 7) (v := .int (-1)) (ty := .int) (C := RX7) (T := TX7) (N := 3) hx hb hts in_X7 tyX7 tyX7_ok nmX7 hown hK hP hD hS 0 rfl rfl 2 (by decide) (hts (.fieldLink RX7 24 "TextMender$Passage" "fault" "I") (List.mem_of_getElem? (i := 9) rfl)) (fun _ h9 => h9) rfl (tyX7_ok 2 (Nat.le_of_ble_eq_true rfl)) rfl rfl (Nat.le_of_ble_eq_true rfl) dX7_init_25 (fun H locs hPn hDn hSn => ?_)
  clear hP hD hS
  have hP : va_P (dC, dI) vwCl [(o, .inr (7, [.ref oC, .ref q_1, .int (-1)])), (q_1, .inr (5, [.ref ar_2, .int 0])), (ar_2, .inl (cI, 2400, .inl (fun _ => 0)))] H := hPn
  have hD : va_D A [(o, .inr (7, [.ref oC, .ref q_1, .int (-1)])), (q_1, .inr (5, [.ref ar_2, .int 0])), (ar_2, .inl (cI, 2400, .inl (fun _ => 0)))] := hDn
  have hS := hSn
  clear hPn hDn hSn
  have hP9 := hP.sub (ws' := [(o, .inr (7, [.ref oC, .ref q_1, .int (-1)])), (q_1, .inr (5, [.ref ar_2, .int 0])), (ar_2, .inl (cI, 2400, .inl (fun _ => 0)))]) [0, 1, 2] rfl
  have hD9 := hD.sub (ws' := [(o, .inr (7, [.ref oC, .ref q_1, .int (-1)])), (q_1, .inr (5, [.ref ar_2, .int 0])), (ar_2, .inl (cI, 2400, .inl (fun _ => 0)))]) [0, 1, 2] (by decide +kernel) rfl
  refine W.widen (k := 2) (n := 2402) (by omega) (by omega) ?_
  exact W.vret hx hb hr (fun t ht hW => ⟨⟨(), rfl, trivial, q_1, ar_2, by rw [ht]; exact hP9, hD9⟩, hS.F ht⟩) (hS.2.2) dX7_init_28

set_option maxHeartbeats 4000000 in
set_option maxRecDepth 100000 in
theorem k_X4_init (l : Launch) (dC : Nat → ClassId) (dI : Nat → Nat → Nat) (cI cS : ClassId) (sz : Nat) (o : Nat) (oP : Nat)  : Met l yX4_init wsX4_init ({ frames := 1, cells := 2, slots := 12, locals := 20 } : Room) (va_Pc [.ref o, .ref oP] (fun U => U.heap.size = sz ∧ va_P (dC, dI) vwCl [(o, .inr (4, [.null, .null, .null, .int 0]))] U.heap ∧ va_K (dC, dI) vwCl [(cI, .int), (cS, .short)] U ∧ va_D (fun _ => True) [(o, .inr (4, [.null, .null, .null, .int 0]))])) (va_Qv (fun (_ : Unit) => True) (fun _ t => ∃ (a1 : Nat) (a2 : Nat), va_P (dC, dI) vwCl [(o, .inr (4, [.ref oP, .ref a1, .ref a2, .int 0])), (a1, .inl (cI, 6, .inl (fun _ => 0))), (a2, .inl (cI, 6, .inl (fun _ => 0)))] t.heap ∧ va_D (va_A [(o, .inr (4, [.null, .null, .null, .int 0]))] sz) [(o, .inr (4, [.ref oP, .ref a1, .ref a2, .int 0])), (a1, .inl (cI, 6, .inl (fun _ => 0))), (a2, .inl (cI, 6, .inl (fun _ => 0)))]) (va_A [(o, .inr (4, [.null, .null, .null, .int 0]))] sz)) 2 12 (va_A [(o, .inr (4, [.null, .null, .null, .int 0]))] sz) := by
  refine Met.ofW (cc := cX4_init) (maxL := 2) (ret := none) (by decide) rfl ?_
  intro p e s m args below meth c s₁ B hml hv
  obtain ⟨rfl, hsz, hP, hK, hD0⟩ := hv
  have hx := B.exec
  have hb := B.bytes
  have hr := B.returns
  have hts := atoms_spec (ws := wsX4_init) B.pre
  have hown : s.vm.findClass RX4 = some m.cls := findClass_of_methodNamed B.named
  have hlocks := B.notSynchronized
  have hin : meth.name = "<init>" := (name_of_methodNamed B.named B.method).1
  have in_X4 : ∀ w ∈ wsX40, w ∈ wsX4_init := fun _ h => List.mem_cons_of_mem _ (List.mem_append_right _ (h))
  subst hsz
  have hD := hD0.self (sz := s.heap.size)
  generalize hAe : va_A [(o, .inr (4, [.null, .null, .null, .int 0]))] s.heap.size = A at hD ⊢
  have hA : ∀ q : Nat, s.heap.size ≤ q → A q := fun q h => by rw [← hAe]; exact Or.inr h
  have hS : va_S A s.heap s.heap [] := va_S.rf
  have hP : va_P (dC, dI) vwCl [(o, .inr (4, [.null, .null, .null, .int 0]))] s.heap := hP
  have hl := lv_entry ([.ref o, .ref oP]) (n := 2) (Nat.le_of_ble_eq_true rfl)
  rw [lg_entry_eq]
  generalize (lg_sl ([.ref o, .ref oP]) ++ List.replicate (2 - (lg_sl ([.ref o, .ref oP])).length) Slot.unset).toArray = ls at hl ⊢
  have hl : lv_has ls 2 [(0, .ref o), (1, .ref oP)] := hl
  refine lv_aload_n hx hb dX4_init_0 rfl (lv_at hl 0 rfl) ?_
  refine W.objInit hx hb hown (hts (.methodLink RX4 3 objectInit) (List.mem_of_getElem? (i := 1) rfl)) (hts (.instanceMethod objectInit) (List.mem_of_getElem? (i := 2) rfl)) (hts (.code objectInit ⟨#[0xb1]⟩ 1 none) (List.mem_of_getElem? (i := 3) rfl)) rfl (by rw [hml]; exact hl.1) rfl dX4_init_1 (Nat.le_of_ble_eq_true rfl) (Nat.le_of_ble_eq_true rfl) ?_
  refine W.eq (g2 := F0 m 4 ls []) rfl ?_
  refine lv_aload_n hx hb dX4_init_4 rfl (lv_at hl 0 rfl) ?_
  refine lv_bipush (v := 6) hx hb dX4_init_5 (by decide) ?_
  refine p_newint hx hb (hts (.arrayClass .int) (List.mem_of_getElem? (i := 4) rfl)) hK hP hD hS hA (n := 6) (N := 6) (by decide) (by decide) (by decide) (Nat.le_of_ble_eq_true rfl) (Nat.le_of_ble_eq_true rfl) dX4_init_7 (fun q_1 H hPn hDn hSn => ?_)
  clear hP hD hS
  have hP : va_P (dC, dI) vwCl [(o, .inr (4, [.null, .null, .null, .int 0])), (q_1, .inl (cI, 6, .inl (fun _ => 0)))] H := hPn
  have hD : va_D A [(o, .inr (4, [.null, .null, .null, .int 0])), (q_1, .inl (cI, 6, .inl (fun _ => 0)))] := hDn
  have hS := hSn
  clear hPn hDn hSn
  refine W.widen (k := 1) (n := 6) (Nat.le_of_ble_eq_true rfl) (Nat.le_of_ble_eq_true rfl) ?_
  refine va_putF (D := (dC, dI)) (ci := 4) (v := .ref q_1) (ty := .array .int) (C := RX4) (T := TX4) (N := 4) hx hb hts in_X4 tyX4 tyX4_ok nmX4 hown hK hP hD hS 0 rfl rfl 1 (by decide) (hts (.fieldLink RX4 9 "TextMender$Harms" "writtenIn" "[I") (List.mem_of_getElem? (i := 5) rfl)) (fun _ h9 => h9) rfl hin rfl (tyX4_ok 1 (Nat.le_of_ble_eq_true rfl)) rfl rfl (Nat.le_of_ble_eq_true rfl) dX4_init_9 (fun H locs hPn hDn hSn => ?_)
  clear hP hD hS
  have hP : va_P (dC, dI) vwCl [(o, .inr (4, [.null, .ref q_1, .null, .int 0])), (q_1, .inl (cI, 6, .inl (fun _ => 0)))] H := hPn
  have hD : va_D A [(o, .inr (4, [.null, .ref q_1, .null, .int 0])), (q_1, .inl (cI, 6, .inl (fun _ => 0)))] := hDn
  have hS := hSn
  clear hPn hDn hSn
  refine lv_aload_n hx hb dX4_init_12 rfl (lv_at hl 0 rfl) ?_
  refine lv_bipush (v := 6) hx hb dX4_init_13 (by decide) ?_
  refine p_newint hx hb (hts (.arrayClass .int) (List.mem_of_getElem? (i := 4) rfl)) hK hP hD hS hA (n := 6) (N := 6) (by decide) (by decide) (by decide) (Nat.le_of_ble_eq_true rfl) (Nat.le_of_ble_eq_true rfl) dX4_init_15 (fun q_2 H hPn hDn hSn => ?_)
  clear hP hD hS
  have hP : va_P (dC, dI) vwCl [(o, .inr (4, [.null, .ref q_1, .null, .int 0])), (q_1, .inl (cI, 6, .inl (fun _ => 0))), (q_2, .inl (cI, 6, .inl (fun _ => 0)))] H := hPn
  have hD : va_D A [(o, .inr (4, [.null, .ref q_1, .null, .int 0])), (q_1, .inl (cI, 6, .inl (fun _ => 0))), (q_2, .inl (cI, 6, .inl (fun _ => 0)))] := hDn
  have hS := hSn
  clear hPn hDn hSn
  refine W.widen (k := 2) (n := 12) (Nat.le_of_ble_eq_true rfl) (Nat.le_of_ble_eq_true rfl) ?_
  refine va_putF (D := (dC, dI)) (ci := 4) (v := .ref q_2) (ty := .array .int) (C := RX4) (T := TX4) (N := 4) hx hb hts in_X4 tyX4 tyX4_ok nmX4 hown hK hP hD hS 0 rfl rfl 2 (by decide) (hts (.fieldLink RX4 15 "TextMender$Harms" "readIn" "[I") (List.mem_of_getElem? (i := 6) rfl)) (fun _ h9 => h9) rfl hin rfl (tyX4_ok 2 (Nat.le_of_ble_eq_true rfl)) rfl rfl (Nat.le_of_ble_eq_true rfl) dX4_init_17 (fun H locs hPn hDn hSn => ?_)
  clear hP hD hS
  have hP : va_P (dC, dI) vwCl [(o, .inr (4, [.null, .ref q_1, .ref q_2, .int 0])), (q_1, .inl (cI, 6, .inl (fun _ => 0))), (q_2, .inl (cI, 6, .inl (fun _ => 0)))] H := hPn
  have hD : va_D A [(o, .inr (4, [.null, .ref q_1, .ref q_2, .int 0])), (q_1, .inl (cI, 6, .inl (fun _ => 0))), (q_2, .inl (cI, 6, .inl (fun _ => 0)))] := hDn
  have hS := hSn
  clear hPn hDn hSn
  refine lv_aload_n hx hb dX4_init_20 rfl (lv_at hl 0 rfl) ?_
  refine lv_aload_n hx hb dX4_init_21 rfl (lv_at hl 1 rfl) ?_
  refine va_putF (D := (dC, dI)) (ci := 4) (v := .ref oP) (ty := .object "TextMender$Passage") (C := RX4) (T := TX4) (N := 4) hx hb hts in_X4 tyX4 tyX4_ok nmX4 hown hK hP hD hS 0 rfl rfl 0 (by decide) (hts (.fieldLink RX4 18 "TextMender$Harms" "passage" "LTextMender$Passage;") (List.mem_of_getElem? (i := 7) rfl)) (fun _ h9 => h9) rfl hin rfl (tyX4_ok 0 (Nat.le_of_ble_eq_true rfl)) rfl rfl (Nat.le_of_ble_eq_true rfl) dX4_init_22 (fun H locs hPn hDn hSn => ?_)
  clear hP hD hS
  have hP : va_P (dC, dI) vwCl [(o, .inr (4, [.ref oP, .ref q_1, .ref q_2, .int 0])), (q_1, .inl (cI, 6, .inl (fun _ => 0))), (q_2, .inl (cI, 6, .inl (fun _ => 0)))] H := hPn
  have hD : va_D A [(o, .inr (4, [.ref oP, .ref q_1, .ref q_2, .int 0])), (q_1, .inl (cI, 6, .inl (fun _ => 0))), (q_2, .inl (cI, 6, .inl (fun _ => 0)))] := hDn
  have hS := hSn
  clear hPn hDn hSn
  refine lv_aload_n hx hb dX4_init_25 rfl (lv_at hl 0 rfl) ?_
  refine lv_iconst (v := 0) hx hb dX4_init_26 (by decide) ?_
  refine va_put (D := (dC, dI)) (ci := 4) (v := .int 0) (ty := .int) (C := RX4) (T := TX4) (N := 4) hx hb hts in_X4 tyX4 tyX4_ok nmX4 hown hK hP hD hS 0 rfl rfl 3 (by decide) (hts (.fieldLink RX4 22 "TextMender$Harms" "length" "I") (List.mem_of_getElem? (i := 8) rfl)) (fun _ h9 => h9) rfl (tyX4_ok 3 (Nat.le_of_ble_eq_true rfl)) rfl rfl (Nat.le_of_ble_eq_true rfl) dX4_init_27 (fun H locs hPn hDn hSn => ?_)
  clear hP hD hS
  have hP : va_P (dC, dI) vwCl [(o, .inr (4, [.ref oP, .ref q_1, .ref q_2, .int 0])), (q_1, .inl (cI, 6, .inl (fun _ => 0))), (q_2, .inl (cI, 6, .inl (fun _ => 0)))] H := hPn
  have hD : va_D A [(o, .inr (4, [.ref oP, .ref q_1, .ref q_2, .int 0])), (q_1, .inl (cI, 6, .inl (fun _ => 0))), (q_2, .inl (cI, 6, .inl (fun _ => 0)))] := hDn
  have hS := hSn
  clear hPn hDn hSn
  have hP9 := hP.sub (ws' := [(o, .inr (4, [.ref oP, .ref q_1, .ref q_2, .int 0])), (q_1, .inl (cI, 6, .inl (fun _ => 0))), (q_2, .inl (cI, 6, .inl (fun _ => 0)))]) [0, 1, 2] rfl
  have hD9 := hD.sub (ws' := [(o, .inr (4, [.ref oP, .ref q_1, .ref q_2, .int 0])), (q_1, .inl (cI, 6, .inl (fun _ => 0))), (q_2, .inl (cI, 6, .inl (fun _ => 0)))]) [0, 1, 2] (by decide +kernel) rfl
  refine W.widen (k := 2) (n := 12) (by omega) (by omega) ?_
  exact W.vret hx hb hr (fun t ht hW => ⟨⟨(), rfl, trivial, q_1, q_2, by rw [ht]; exact hP9, hD9⟩, hS.F ht⟩) (hS.2.2) dX4_init_30

set_option maxHeartbeats 4000000 in
set_option maxRecDepth 100000 in
theorem k_X3_init (l : Launch) (dC : Nat → ClassId) (dI : Nat → Nat → Nat) (cI cS : ClassId) (sz : Nat) (o : Nat)  : Met l yX3_init wsX3_init ({ frames := 1, cells := 2, slots := 2048, locals := 23 } : Room) (va_Pc [.ref o] (fun U => U.heap.size = sz ∧ va_P (dC, dI) vwCl [(o, .inr (3, [.null, .null, .int 0]))] U.heap ∧ va_K (dC, dI) vwCl [(cI, .int), (cS, .short)] U ∧ va_D (fun _ => True) [(o, .inr (3, [.null, .null, .int 0]))])) (va_Qv (fun (_ : Unit) => True) (fun _ t => ∃ (a1 : Nat) (a2 : Nat), va_P (dC, dI) vwCl [(o, .inr (3, [.ref a1, .ref a2, .int 0])), (a1, .inl (cI, 1024, .inl (fun _ => 0))), (a2, .inl (cI, 1024, .inl (fun _ => (-1))))] t.heap ∧ va_D (va_A [(o, .inr (3, [.null, .null, .int 0]))] sz) [(o, .inr (3, [.ref a1, .ref a2, .int 0])), (a1, .inl (cI, 1024, .inl (fun _ => 0))), (a2, .inl (cI, 1024, .inl (fun _ => (-1))))]) (va_A [(o, .inr (3, [.null, .null, .int 0]))] sz)) 2 2048 (va_A [(o, .inr (3, [.null, .null, .int 0]))] sz) := by
  refine Met.ofW (cc := cX3_init) (maxL := 1) (ret := none) (by decide) rfl ?_
  intro p e s m args below meth c s₁ B hml hv
  obtain ⟨rfl, hsz, hP, hK, hD0⟩ := hv
  have hx := B.exec
  have hb := B.bytes
  have hr := B.returns
  have hts := atoms_spec (ws := wsX3_init) B.pre
  have hown : s.vm.findClass RX3 = some m.cls := findClass_of_methodNamed B.named
  have hlocks := B.notSynchronized
  have hin : meth.name = "<init>" := (name_of_methodNamed B.named B.method).1
  have in_X3 : ∀ w ∈ wsX30, w ∈ wsX3_init := fun _ h => List.mem_cons_of_mem _ (List.mem_append_left _ (List.mem_append_right _ (h)))
  subst hsz
  have hD := hD0.self (sz := s.heap.size)
  generalize hAe : va_A [(o, .inr (3, [.null, .null, .int 0]))] s.heap.size = A at hD ⊢
  have hA : ∀ q : Nat, s.heap.size ≤ q → A q := fun q h => by rw [← hAe]; exact Or.inr h
  have hS : va_S A s.heap s.heap [] := va_S.rf
  have hP : va_P (dC, dI) vwCl [(o, .inr (3, [.null, .null, .int 0]))] s.heap := hP
  have hl := lv_entry ([.ref o]) (n := 1) (Nat.le_of_ble_eq_true rfl)
  rw [lg_entry_eq]
  generalize (lg_sl ([.ref o]) ++ List.replicate (1 - (lg_sl ([.ref o])).length) Slot.unset).toArray = ls at hl ⊢
  have hl : lv_has ls 1 [(0, .ref o)] := hl
  refine lv_aload_n hx hb dX3_init_0 rfl (lv_at hl 0 rfl) ?_
  refine W.objInit hx hb hown (hts (.methodLink RX3 3 objectInit) (List.mem_of_getElem? (i := 1) rfl)) (hts (.instanceMethod objectInit) (List.mem_of_getElem? (i := 2) rfl)) (hts (.code objectInit ⟨#[0xb1]⟩ 1 none) (List.mem_of_getElem? (i := 3) rfl)) rfl (by rw [hml]; exact hl.1) rfl dX3_init_1 (Nat.le_of_ble_eq_true rfl) (Nat.le_of_ble_eq_true rfl) ?_
  refine W.eq (g2 := F0 m 4 ls []) rfl ?_
  refine lv_aload_n hx hb dX3_init_4 rfl (lv_at hl 0 rfl) ?_
  refine lv_sipush (v := 1024) hx hb dX3_init_5 (by decide) ?_
  refine p_newint hx hb (hts (.arrayClass .int) (List.mem_of_getElem? (i := 4) rfl)) hK hP hD hS hA (n := 1024) (N := 1024) (by decide) (by decide) (by decide) (Nat.le_of_ble_eq_true rfl) (Nat.le_of_ble_eq_true rfl) dX3_init_8 (fun q_1 H hPn hDn hSn => ?_)
  clear hP hD hS
  have hP : va_P (dC, dI) vwCl [(o, .inr (3, [.null, .null, .int 0])), (q_1, .inl (cI, 1024, .inl (fun _ => 0)))] H := hPn
  have hD : va_D A [(o, .inr (3, [.null, .null, .int 0])), (q_1, .inl (cI, 1024, .inl (fun _ => 0)))] := hDn
  have hS := hSn
  clear hPn hDn hSn
  refine W.widen (k := 1) (n := 1024) (Nat.le_of_ble_eq_true rfl) (Nat.le_of_ble_eq_true rfl) ?_
  refine va_putF (D := (dC, dI)) (ci := 3) (v := .ref q_1) (ty := .array .int) (C := RX3) (T := TX3) (N := 3) hx hb hts in_X3 tyX3 tyX3_ok nmX3 hown hK hP hD hS 0 rfl rfl 0 (by decide) (hts (.fieldLink RX3 11 "TextMender$Costs" "pair" "[I") (List.mem_of_getElem? (i := 5) rfl)) (fun _ h9 => h9) rfl hin rfl (tyX3_ok 0 (Nat.le_of_ble_eq_true rfl)) rfl rfl (Nat.le_of_ble_eq_true rfl) dX3_init_10 (fun H locs hPn hDn hSn => ?_)
  clear hP hD hS
  have hP : va_P (dC, dI) vwCl [(o, .inr (3, [.ref q_1, .null, .int 0])), (q_1, .inl (cI, 1024, .inl (fun _ => 0)))] H := hPn
  have hD : va_D A [(o, .inr (3, [.ref q_1, .null, .int 0])), (q_1, .inl (cI, 1024, .inl (fun _ => 0)))] := hDn
  have hS := hSn
  clear hPn hDn hSn
  refine lv_aload_n hx hb dX3_init_13 rfl (lv_at hl 0 rfl) ?_
  refine lv_sipush (v := 1024) hx hb dX3_init_14 (by decide) ?_
  refine p_newint hx hb (hts (.arrayClass .int) (List.mem_of_getElem? (i := 4) rfl)) hK hP hD hS hA (n := 1024) (N := 1024) (by decide) (by decide) (by decide) (Nat.le_of_ble_eq_true rfl) (Nat.le_of_ble_eq_true rfl) dX3_init_17 (fun q_2 H hPn hDn hSn => ?_)
  clear hP hD hS
  have hP : va_P (dC, dI) vwCl [(o, .inr (3, [.ref q_1, .null, .int 0])), (q_1, .inl (cI, 1024, .inl (fun _ => 0))), (q_2, .inl (cI, 1024, .inl (fun _ => 0)))] H := hPn
  have hD : va_D A [(o, .inr (3, [.ref q_1, .null, .int 0])), (q_1, .inl (cI, 1024, .inl (fun _ => 0))), (q_2, .inl (cI, 1024, .inl (fun _ => 0)))] := hDn
  have hS := hSn
  clear hPn hDn hSn
  refine W.widen (k := 2) (n := 2048) (Nat.le_of_ble_eq_true rfl) (Nat.le_of_ble_eq_true rfl) ?_
  refine va_putF (D := (dC, dI)) (ci := 3) (v := .ref q_2) (ty := .array .int) (C := RX3) (T := TX3) (N := 3) hx hb hts in_X3 tyX3 tyX3_ok nmX3 hown hK hP hD hS 0 rfl rfl 1 (by decide) (hts (.fieldLink RX3 15 "TextMender$Costs" "value" "[I") (List.mem_of_getElem? (i := 6) rfl)) (fun _ h9 => h9) rfl hin rfl (tyX3_ok 1 (Nat.le_of_ble_eq_true rfl)) rfl rfl (Nat.le_of_ble_eq_true rfl) dX3_init_19 (fun H locs hPn hDn hSn => ?_)
  clear hP hD hS
  have hP : va_P (dC, dI) vwCl [(o, .inr (3, [.ref q_1, .ref q_2, .int 0])), (q_1, .inl (cI, 1024, .inl (fun _ => 0))), (q_2, .inl (cI, 1024, .inl (fun _ => 0)))] H := hPn
  have hD : va_D A [(o, .inr (3, [.ref q_1, .ref q_2, .int 0])), (q_1, .inl (cI, 1024, .inl (fun _ => 0))), (q_2, .inl (cI, 1024, .inl (fun _ => 0)))] := hDn
  have hS := hSn
  clear hPn hDn hSn
  refine lv_aload_n hx hb dX3_init_22 rfl (lv_at hl 0 rfl) ?_
  refine va_get (D := (dC, dI)) (ci := 3) (v := .ref q_2) (C := RX3) (T := TX3) (N := 3) hx hb hts in_X3 hown hK hP 0 rfl rfl 1 (by decide) (hts (.fieldLink RX3 15 "TextMender$Costs" "value" "[I") (List.mem_of_getElem? (i := 6) rfl)) (fun _ h9 => h9) rfl dX3_init_23 ?_
  refine lv_iconst (v := (-1)) hx hb dX3_init_26 (by decide) ?_
  have hPc := hP.sub (ws' := [(q_2, .inl (cI, 1024, .inl (fun _ => 0)))]) [2] rfl
  have hDc := hD.sub (ws' := [(q_2, .inl (cI, 1024, .inl (fun _ => 0)))]) [2] (by decide +kernel) rfl
  have hFc := va_free (wc := [(q_2, .inl (cI, 1024, .inl (fun _ => 0)))]) hD hS hA [2] rfl
  refine va_callv (va_runS (As := [.ref q_2, .int (-1)]) (rest := []) ⟨hx, hb, hml, hown, hts⟩ (k_J7_fill_53178 l dC dI cI cS H.size q_2 1024 (-1) (fun _ => 0) (by decide)) (va_cwS 2 hts gX3_init_J7_fill_53178 rfl rfl rfl (by decide +kernel) ⟨Nat.le_of_ble_eq_true rfl, Nat.le_of_ble_eq_true rfl⟩) ⟨fun a U g mk q => by obtain ⟨q0, q1, qP, qK, qD⟩ := q; exact ⟨q0, q1, qP, va_K.moved (u := U) (U := U.calling g mk a) (Vm.Alike.refl U.vm) qK, qD⟩, fun U hU hW => ⟨rfl, by rw [hU], by rw [hU]; exact hPc, va_K.moved hW.alike hK, hDc.weaken (fun _ _ _ _ => trivial)⟩⟩ rfl rfl hl.1 rfl (lv_room (Nat.le_of_ble_eq_true rfl)) dX3_init_27 ⟨Nat.le_of_ble_eq_true rfl, Nat.le_of_ble_eq_true rfl⟩) hS (fun q _ h => hFc q h) hFc (fun u t H1 locs ht hvm hw hB hz1 hk1 hSn => ?_)
  refine And.elim (fun hP1 hD1 => ?_) hB
  clear hB
  rw [ht] at hP1
  obtain ⟨hPn, hDn⟩ := va_join (wr := [(o, .inr (3, [.ref q_1, .ref q_2, .int 0])), (q_1, .inl (cI, 1024, .inl (fun _ => 0)))]) (w1 := [(q_2, .inl (cI, 1024, .inl (fun _ => (-1))))]) hP hD [2] [0, 1] rfl rfl (by decide +kernel) (by decide +kernel) hk1 hFc hP1 hD1
  clear hP hD hS hPc hDc hFc hk1 hz1 hvm ht hP1 hD1
  generalize H1 = H at hPn hSn ⊢
  have hP : va_P (dC, dI) vwCl [(o, .inr (3, [.ref q_1, .ref q_2, .int 0])), (q_1, .inl (cI, 1024, .inl (fun _ => 0))), (q_2, .inl (cI, 1024, .inl (fun _ => (-1))))] H := hPn
  have hD : va_D A [(o, .inr (3, [.ref q_1, .ref q_2, .int 0])), (q_1, .inl (cI, 1024, .inl (fun _ => 0))), (q_2, .inl (cI, 1024, .inl (fun _ => (-1))))] := hDn
  have hS := hSn
  clear hPn hDn hSn
  refine lv_aload_n hx hb dX3_init_30 rfl (lv_at hl 0 rfl) ?_
  refine lv_iconst (v := 0) hx hb dX3_init_31 (by decide) ?_
  refine va_put (D := (dC, dI)) (ci := 3) (v := .int 0) (ty := .int) (C := RX3) (T := TX3) (N := 3) hx hb hts in_X3 tyX3 tyX3_ok nmX3 hown hK hP hD hS 0 rfl rfl 2 (by decide) (hts (.fieldLink RX3 24 "TextMender$Costs" "length" "I") (List.mem_of_getElem? (i := 7) rfl)) (fun _ h9 => h9) rfl (tyX3_ok 2 (Nat.le_of_ble_eq_true rfl)) rfl rfl (Nat.le_of_ble_eq_true rfl) dX3_init_32 (fun H locs hPn hDn hSn => ?_)
  clear hP hD hS
  have hP : va_P (dC, dI) vwCl [(o, .inr (3, [.ref q_1, .ref q_2, .int 0])), (q_1, .inl (cI, 1024, .inl (fun _ => 0))), (q_2, .inl (cI, 1024, .inl (fun _ => (-1))))] H := hPn
  have hD : va_D A [(o, .inr (3, [.ref q_1, .ref q_2, .int 0])), (q_1, .inl (cI, 1024, .inl (fun _ => 0))), (q_2, .inl (cI, 1024, .inl (fun _ => (-1))))] := hDn
  have hS := hSn
  clear hPn hDn hSn
  have hP9 := hP.sub (ws' := [(o, .inr (3, [.ref q_1, .ref q_2, .int 0])), (q_1, .inl (cI, 1024, .inl (fun _ => 0))), (q_2, .inl (cI, 1024, .inl (fun _ => (-1))))]) [0, 1, 2] rfl
  have hD9 := hD.sub (ws' := [(o, .inr (3, [.ref q_1, .ref q_2, .int 0])), (q_1, .inl (cI, 1024, .inl (fun _ => 0))), (q_2, .inl (cI, 1024, .inl (fun _ => (-1))))]) [0, 1, 2] (by decide +kernel) rfl
  refine W.widen (k := 2) (n := 2048) (by omega) (by omega) ?_
  exact W.vret hx hb hr (fun t ht hW => ⟨⟨(), rfl, trivial, q_1, q_2, by rw [ht]; exact hP9, hD9⟩, hS.F ht⟩) (hS.2.2) dX3_init_35

set_option maxHeartbeats 4000000 in
set_option maxRecDepth 100000 in
theorem k_X0_init (l : Launch) (dC : Nat → ClassId) (dI : Nat → Nat → Nat) (cI cS : ClassId) (sz : Nat) (o : Nat)  : Met l yX0_init wsX0_init ({ frames := 1, cells := 2, slots := 6020, locals := 20 } : Room) (va_Pc [.ref o] (fun U => U.heap.size = sz ∧ va_P (dC, dI) vwCl [(o, .inr (0, [.null, .null, .int 0, .int 0]))] U.heap ∧ va_K (dC, dI) vwCl [(cI, .int), (cS, .short)] U ∧ va_D (fun _ => True) [(o, .inr (0, [.null, .null, .int 0, .int 0]))])) (va_Qv (fun (_ : Unit) => True) (fun _ t => ∃ (a1 : Nat) (a2 : Nat), va_P (dC, dI) vwCl [(o, .inr (0, [.ref a1, .ref a2, .int 0, .int 0])), (a1, .inl (cI, 6000, .inl (fun _ => 0))), (a2, .inl (cI, 20, .inl (fun _ => 0)))] t.heap ∧ va_D (va_A [(o, .inr (0, [.null, .null, .int 0, .int 0]))] sz) [(o, .inr (0, [.ref a1, .ref a2, .int 0, .int 0])), (a1, .inl (cI, 6000, .inl (fun _ => 0))), (a2, .inl (cI, 20, .inl (fun _ => 0)))]) (va_A [(o, .inr (0, [.null, .null, .int 0, .int 0]))] sz)) 2 6020 (va_A [(o, .inr (0, [.null, .null, .int 0, .int 0]))] sz) := by
  refine Met.ofW (cc := cX0_init) (maxL := 1) (ret := none) (by decide) rfl ?_
  intro p e s m args below meth c s₁ B hml hv
  obtain ⟨rfl, hsz, hP, hK, hD0⟩ := hv
  have hx := B.exec
  have hb := B.bytes
  have hr := B.returns
  have hts := atoms_spec (ws := wsX0_init) B.pre
  have hown : s.vm.findClass RX0 = some m.cls := findClass_of_methodNamed B.named
  have hlocks := B.notSynchronized
  have hin : meth.name = "<init>" := (name_of_methodNamed B.named B.method).1
  have in_X0 : ∀ w ∈ wsX00, w ∈ wsX0_init := fun _ h => List.mem_cons_of_mem _ (List.mem_append_right _ (h))
  subst hsz
  have hD := hD0.self (sz := s.heap.size)
  generalize hAe : va_A [(o, .inr (0, [.null, .null, .int 0, .int 0]))] s.heap.size = A at hD ⊢
  have hA : ∀ q : Nat, s.heap.size ≤ q → A q := fun q h => by rw [← hAe]; exact Or.inr h
  have hS : va_S A s.heap s.heap [] := va_S.rf
  have hP : va_P (dC, dI) vwCl [(o, .inr (0, [.null, .null, .int 0, .int 0]))] s.heap := hP
  have hl := lv_entry ([.ref o]) (n := 1) (Nat.le_of_ble_eq_true rfl)
  rw [lg_entry_eq]
  generalize (lg_sl ([.ref o]) ++ List.replicate (1 - (lg_sl ([.ref o])).length) Slot.unset).toArray = ls at hl ⊢
  have hl : lv_has ls 1 [(0, .ref o)] := hl
  refine lv_aload_n hx hb dX0_init_0 rfl (lv_at hl 0 rfl) ?_
  refine W.objInit hx hb hown (hts (.methodLink RX0 3 objectInit) (List.mem_of_getElem? (i := 1) rfl)) (hts (.instanceMethod objectInit) (List.mem_of_getElem? (i := 2) rfl)) (hts (.code objectInit ⟨#[0xb1]⟩ 1 none) (List.mem_of_getElem? (i := 3) rfl)) rfl (by rw [hml]; exact hl.1) rfl dX0_init_1 (Nat.le_of_ble_eq_true rfl) (Nat.le_of_ble_eq_true rfl) ?_
  refine W.eq (g2 := F0 m 4 ls []) rfl ?_
  refine lv_aload_n hx hb dX0_init_4 rfl (lv_at hl 0 rfl) ?_
  refine lv_sipush (v := 6000) hx hb dX0_init_5 (by decide) ?_
  refine p_newint hx hb (hts (.arrayClass .int) (List.mem_of_getElem? (i := 4) rfl)) hK hP hD hS hA (n := 6000) (N := 6000) (by decide) (by decide) (by decide) (Nat.le_of_ble_eq_true rfl) (Nat.le_of_ble_eq_true rfl) dX0_init_8 (fun q_1 H hPn hDn hSn => ?_)
  clear hP hD hS
  have hP : va_P (dC, dI) vwCl [(o, .inr (0, [.null, .null, .int 0, .int 0])), (q_1, .inl (cI, 6000, .inl (fun _ => 0)))] H := hPn
  have hD : va_D A [(o, .inr (0, [.null, .null, .int 0, .int 0])), (q_1, .inl (cI, 6000, .inl (fun _ => 0)))] := hDn
  have hS := hSn
  clear hPn hDn hSn
  refine W.widen (k := 1) (n := 6000) (Nat.le_of_ble_eq_true rfl) (Nat.le_of_ble_eq_true rfl) ?_
  refine va_putF (D := (dC, dI)) (ci := 0) (v := .ref q_1) (ty := .array .int) (C := RX0) (T := TX0) (N := 4) hx hb hts in_X0 tyX0 tyX0_ok nmX0 hown hK hP hD hS 0 rfl rfl 0 (by decide) (hts (.fieldLink RX0 11 "TextMender$Changes" "kept" "[I") (List.mem_of_getElem? (i := 5) rfl)) (fun _ h9 => h9) rfl hin rfl (tyX0_ok 0 (Nat.le_of_ble_eq_true rfl)) rfl rfl (Nat.le_of_ble_eq_true rfl) dX0_init_10 (fun H locs hPn hDn hSn => ?_)
  clear hP hD hS
  have hP : va_P (dC, dI) vwCl [(o, .inr (0, [.ref q_1, .null, .int 0, .int 0])), (q_1, .inl (cI, 6000, .inl (fun _ => 0)))] H := hPn
  have hD : va_D A [(o, .inr (0, [.ref q_1, .null, .int 0, .int 0])), (q_1, .inl (cI, 6000, .inl (fun _ => 0)))] := hDn
  have hS := hSn
  clear hPn hDn hSn
  refine lv_aload_n hx hb dX0_init_13 rfl (lv_at hl 0 rfl) ?_
  refine lv_bipush (v := 20) hx hb dX0_init_14 (by decide) ?_
  refine p_newint hx hb (hts (.arrayClass .int) (List.mem_of_getElem? (i := 4) rfl)) hK hP hD hS hA (n := 20) (N := 20) (by decide) (by decide) (by decide) (Nat.le_of_ble_eq_true rfl) (Nat.le_of_ble_eq_true rfl) dX0_init_16 (fun q_2 H hPn hDn hSn => ?_)
  clear hP hD hS
  have hP : va_P (dC, dI) vwCl [(o, .inr (0, [.ref q_1, .null, .int 0, .int 0])), (q_1, .inl (cI, 6000, .inl (fun _ => 0))), (q_2, .inl (cI, 20, .inl (fun _ => 0)))] H := hPn
  have hD : va_D A [(o, .inr (0, [.ref q_1, .null, .int 0, .int 0])), (q_1, .inl (cI, 6000, .inl (fun _ => 0))), (q_2, .inl (cI, 20, .inl (fun _ => 0)))] := hDn
  have hS := hSn
  clear hPn hDn hSn
  refine W.widen (k := 2) (n := 6020) (Nat.le_of_ble_eq_true rfl) (Nat.le_of_ble_eq_true rfl) ?_
  refine va_putF (D := (dC, dI)) (ci := 0) (v := .ref q_2) (ty := .array .int) (C := RX0) (T := TX0) (N := 4) hx hb hts in_X0 tyX0 tyX0_ok nmX0 hown hK hP hD hS 0 rfl rfl 1 (by decide) (hts (.fieldLink RX0 15 "TextMender$Changes" "keptLength" "[I") (List.mem_of_getElem? (i := 6) rfl)) (fun _ h9 => h9) rfl hin rfl (tyX0_ok 1 (Nat.le_of_ble_eq_true rfl)) rfl rfl (Nat.le_of_ble_eq_true rfl) dX0_init_18 (fun H locs hPn hDn hSn => ?_)
  clear hP hD hS
  have hP : va_P (dC, dI) vwCl [(o, .inr (0, [.ref q_1, .ref q_2, .int 0, .int 0])), (q_1, .inl (cI, 6000, .inl (fun _ => 0))), (q_2, .inl (cI, 20, .inl (fun _ => 0)))] H := hPn
  have hD : va_D A [(o, .inr (0, [.ref q_1, .ref q_2, .int 0, .int 0])), (q_1, .inl (cI, 6000, .inl (fun _ => 0))), (q_2, .inl (cI, 20, .inl (fun _ => 0)))] := hDn
  have hS := hSn
  clear hPn hDn hSn
  refine lv_aload_n hx hb dX0_init_21 rfl (lv_at hl 0 rfl) ?_
  refine lv_iconst (v := 0) hx hb dX0_init_22 (by decide) ?_
  refine va_put (D := (dC, dI)) (ci := 0) (v := .int 0) (ty := .int) (C := RX0) (T := TX0) (N := 4) hx hb hts in_X0 tyX0 tyX0_ok nmX0 hown hK hP hD hS 0 rfl rfl 2 (by decide) (hts (.fieldLink RX0 18 "TextMender$Changes" "next" "I") (List.mem_of_getElem? (i := 7) rfl)) (fun _ h9 => h9) rfl (tyX0_ok 2 (Nat.le_of_ble_eq_true rfl)) rfl rfl (Nat.le_of_ble_eq_true rfl) dX0_init_23 (fun H locs hPn hDn hSn => ?_)
  clear hP hD hS
  have hP : va_P (dC, dI) vwCl [(o, .inr (0, [.ref q_1, .ref q_2, .int 0, .int 0])), (q_1, .inl (cI, 6000, .inl (fun _ => 0))), (q_2, .inl (cI, 20, .inl (fun _ => 0)))] H := hPn
  have hD : va_D A [(o, .inr (0, [.ref q_1, .ref q_2, .int 0, .int 0])), (q_1, .inl (cI, 6000, .inl (fun _ => 0))), (q_2, .inl (cI, 20, .inl (fun _ => 0)))] := hDn
  have hS := hSn
  clear hPn hDn hSn
  refine lv_aload_n hx hb dX0_init_26 rfl (lv_at hl 0 rfl) ?_
  refine lv_iconst (v := 0) hx hb dX0_init_27 (by decide) ?_
  refine va_put (D := (dC, dI)) (ci := 0) (v := .int 0) (ty := .int) (C := RX0) (T := TX0) (N := 4) hx hb hts in_X0 tyX0 tyX0_ok nmX0 hown hK hP hD hS 0 rfl rfl 3 (by decide) (hts (.fieldLink RX0 22 "TextMender$Changes" "length" "I") (List.mem_of_getElem? (i := 8) rfl)) (fun _ h9 => h9) rfl (tyX0_ok 3 (Nat.le_of_ble_eq_true rfl)) rfl rfl (Nat.le_of_ble_eq_true rfl) dX0_init_28 (fun H locs hPn hDn hSn => ?_)
  clear hP hD hS
  have hP : va_P (dC, dI) vwCl [(o, .inr (0, [.ref q_1, .ref q_2, .int 0, .int 0])), (q_1, .inl (cI, 6000, .inl (fun _ => 0))), (q_2, .inl (cI, 20, .inl (fun _ => 0)))] H := hPn
  have hD : va_D A [(o, .inr (0, [.ref q_1, .ref q_2, .int 0, .int 0])), (q_1, .inl (cI, 6000, .inl (fun _ => 0))), (q_2, .inl (cI, 20, .inl (fun _ => 0)))] := hDn
  have hS := hSn
  clear hPn hDn hSn
  have hP9 := hP.sub (ws' := [(o, .inr (0, [.ref q_1, .ref q_2, .int 0, .int 0])), (q_1, .inl (cI, 6000, .inl (fun _ => 0))), (q_2, .inl (cI, 20, .inl (fun _ => 0)))]) [0, 1, 2] rfl
  have hD9 := hD.sub (ws' := [(o, .inr (0, [.ref q_1, .ref q_2, .int 0, .int 0])), (q_1, .inl (cI, 6000, .inl (fun _ => 0))), (q_2, .inl (cI, 20, .inl (fun _ => 0)))]) [0, 1, 2] (by decide +kernel) rfl
  refine W.widen (k := 2) (n := 6020) (by omega) (by omega) ?_
  exact W.vret hx hb hr (fun t ht hW => ⟨⟨(), rfl, trivial, q_1, q_2, by rw [ht]; exact hP9, hD9⟩, hS.F ht⟩) (hS.2.2) dX0_init_31

set_option maxHeartbeats 4000000 in
set_option maxRecDepth 100000 in
theorem k_X9_init (l : Launch) (dC : Nat → ClassId) (dI : Nat → Nat → Nat) (cI cS : ClassId) (sz : Nat) (o : Nat) (oH : Nat) (oK : Nat)  : Met l yX9_init wsX9_init ({ frames := 2, cells := 12, slots := 3486, locals := 42 } : Room) (va_Pc [.ref o, .ref oH, .ref oK] (fun U => U.heap.size = sz ∧ va_P (dC, dI) vwCl [(o, .inr (9, [.null, .null, .null, .null, .null, .null, .null, .null, .null, .null, .null, .int 0]))] U.heap ∧ va_K (dC, dI) vwCl [(cI, .int), (cS, .short)] U ∧ va_D (fun _ => True) [(o, .inr (9, [.null, .null, .null, .null, .null, .null, .null, .null, .null, .null, .null, .int 0]))])) (va_Qv (fun (_ : Unit) => True) (fun _ t => ∃ (n1 : Nat) (n2 : Nat) (n3 : Nat) (b1 : Nat) (b2 : Nat) (b3 : Nat) (f1 : Nat) (f2 : Nat) (f3 : Nat) (f4 : Nat) (f5 : Nat) (f6 : Nat), va_P (dC, dI) vwCl [(o, .inr (9, [.ref oH, .ref oK, .ref n1, .ref n2, .ref n3, .ref f1, .ref f2, .ref f3, .ref f4, .ref f5, .ref f6, .int 0])), (n1, .inr (5, [.ref b1, .int 0])), (b1, .inl (cI, 300, .inl (fun _ => 0))), (n2, .inr (5, [.ref b2, .int 0])), (b2, .inl (cI, 300, .inl (fun _ => 0))), (n3, .inr (5, [.ref b3, .int 0])), (b3, .inl (cI, 300, .inl (fun _ => 0))), (f1, .inl (cI, 258, .inl (fun _ => (-1)))), (f2, .inl (cI, 258, .inl (fun _ => 0))), (f3, .inl (cI, 774, .inl (fun _ => 0))), (f4, .inl (cI, 258, .inl (fun _ => 0))), (f5, .inl (cI, 258, .inl (fun _ => 0))), (f6, .inl (cI, 774, .inl (fun _ => 0)))] t.heap ∧ va_D (va_A [(o, .inr (9, [.null, .null, .null, .null, .null, .null, .null, .null, .null, .null, .null, .int 0]))] sz) [(o, .inr (9, [.ref oH, .ref oK, .ref n1, .ref n2, .ref n3, .ref f1, .ref f2, .ref f3, .ref f4, .ref f5, .ref f6, .int 0])), (n1, .inr (5, [.ref b1, .int 0])), (b1, .inl (cI, 300, .inl (fun _ => 0))), (n2, .inr (5, [.ref b2, .int 0])), (b2, .inl (cI, 300, .inl (fun _ => 0))), (n3, .inr (5, [.ref b3, .int 0])), (b3, .inl (cI, 300, .inl (fun _ => 0))), (f1, .inl (cI, 258, .inl (fun _ => (-1)))), (f2, .inl (cI, 258, .inl (fun _ => 0))), (f3, .inl (cI, 774, .inl (fun _ => 0))), (f4, .inl (cI, 258, .inl (fun _ => 0))), (f5, .inl (cI, 258, .inl (fun _ => 0))), (f6, .inl (cI, 774, .inl (fun _ => 0)))]) (va_A [(o, .inr (9, [.null, .null, .null, .null, .null, .null, .null, .null, .null, .null, .null, .int 0]))] sz)) 12 3486 (va_A [(o, .inr (9, [.null, .null, .null, .null, .null, .null, .null, .null, .null, .null, .null, .int 0]))] sz) := by
  refine Met.ofW (cc := cX9_init) (maxL := 3) (ret := none) (by decide) rfl ?_
  intro p e s m args below meth c s₁ B hml hv
  obtain ⟨rfl, hsz, hP, hK, hD0⟩ := hv
  have hx := B.exec
  have hb := B.bytes
  have hr := B.returns
  have hts := atoms_spec (ws := wsX9_init) B.pre
  have hown : s.vm.findClass RX9 = some m.cls := findClass_of_methodNamed B.named
  have hlocks := B.notSynchronized
  have hin : meth.name = "<init>" := (name_of_methodNamed B.named B.method).1
  have in_X5 : ∀ w ∈ wsX50, w ∈ wsX9_init := fun _ h => List.mem_cons_of_mem _ (List.mem_append_left _ (List.mem_append_left _ (List.mem_append_left _ (List.mem_append_right _ (h)))))
  have in_X9 : ∀ w ∈ wsX90, w ∈ wsX9_init := fun _ h => List.mem_cons_of_mem _ (List.mem_append_left _ (List.mem_append_left _ (List.mem_append_right _ (h))))
  subst hsz
  have hD := hD0.self (sz := s.heap.size)
  generalize hAe : va_A [(o, .inr (9, [.null, .null, .null, .null, .null, .null, .null, .null, .null, .null, .null, .int 0]))] s.heap.size = A at hD ⊢
  have hA : ∀ q : Nat, s.heap.size ≤ q → A q := fun q h => by rw [← hAe]; exact Or.inr h
  have hS : va_S A s.heap s.heap [] := va_S.rf
  have hP : va_P (dC, dI) vwCl [(o, .inr (9, [.null, .null, .null, .null, .null, .null, .null, .null, .null, .null, .null, .int 0]))] s.heap := hP
  have hl := lv_entry ([.ref o, .ref oH, .ref oK]) (n := 3) (Nat.le_of_ble_eq_true rfl)
  rw [lg_entry_eq]
  generalize (lg_sl ([.ref o, .ref oH, .ref oK]) ++ List.replicate (3 - (lg_sl ([.ref o, .ref oH, .ref oK])).length) Slot.unset).toArray = ls at hl ⊢
  have hl : lv_has ls 3 [(0, .ref o), (1, .ref oH), (2, .ref oK)] := hl
  refine lv_aload_n hx hb dX9_init_0 rfl (lv_at hl 0 rfl) ?_
  refine W.objInit hx hb hown (hts (.methodLink RX9 3 objectInit) (List.mem_of_getElem? (i := 1) rfl)) (hts (.instanceMethod objectInit) (List.mem_of_getElem? (i := 2) rfl)) (hts (.code objectInit ⟨#[0xb1]⟩ 1 none) (List.mem_of_getElem? (i := 3) rfl)) rfl (by rw [hml]; exact hl.1) rfl dX9_init_1 (Nat.le_of_ble_eq_true rfl) (Nat.le_of_ble_eq_true rfl) ?_
  refine W.eq (g2 := F0 m 4 ls []) rfl ?_
  refine lv_aload_n hx hb dX9_init_4 rfl (lv_at hl 0 rfl) ?_
  refine va_new (ci := 5) (fs := [.null, .int 0]) (C := RX5) (T := TX5) (N := 2) hx hb hts in_X5 tyX5 tyX5_ok hown (hts (.classLink RX9 9 RX5) (List.mem_of_getElem? (i := 4) rfl)) (hts (.instantiable RX5 2) (List.mem_of_getElem? (i := 5) rfl)) (hts (.initialized RX5) (List.mem_of_getElem? (i := 6) rfl)) hK hP hD hS hA rfl (p_fsX5) (Nat.le_of_ble_eq_true rfl) (Nat.le_of_ble_eq_true rfl) dX9_init_5 (fun q_1 H hPn hDn hSn => ?_)
  clear hP hD hS
  have hP : va_P (dC, dI) vwCl [(o, .inr (9, [.null, .null, .null, .null, .null, .null, .null, .null, .null, .null, .null, .int 0])), (q_1, .inr (5, [.null, .int 0]))] H := hPn
  have hD : va_D A [(o, .inr (9, [.null, .null, .null, .null, .null, .null, .null, .null, .null, .null, .null, .int 0])), (q_1, .inr (5, [.null, .int 0]))] := hDn
  have hS := hSn
  clear hPn hDn hSn
  refine W.widen (k := 1) (n := 2) (Nat.le_of_ble_eq_true rfl) (Nat.le_of_ble_eq_true rfl) ?_
  refine lv_dup hx hb dX9_init_8 rfl ?_
  refine lv_sipush (v := 300) hx hb dX9_init_9 (by decide) ?_
  have hPc := hP.sub (ws' := [(q_1, .inr (5, [.null, .int 0]))]) [1] rfl
  have hDc := hD.sub (ws' := [(q_1, .inr (5, [.null, .int 0]))]) [1] (by decide +kernel) rfl
  have hFc := va_free (wc := [(q_1, .inr (5, [.null, .int 0]))]) hD hS hA [1] rfl
  refine va_callv (va_runI (As := [.int 300]) (rest := [.ref q_1, .ref o]) ⟨hx, hb, hml, hown, hts⟩ (k_X5_init l dC dI cI cS H.size q_1 300 300 (by decide) (by decide) (by decide)) (cwI 1 hts gX9_init_X5_init rfl rfl rfl (hts (.initialized RX5) (List.mem_of_getElem? (i := 6) rfl)) (hts (.methodLink RX9 11 yX5_init) (List.mem_of_getElem? (i := 20) rfl)) (hts (.instanceMethod yX5_init) (List.mem_of_getElem? (i := 21) rfl)) rfl (by decide +kernel) ⟨Nat.le_of_ble_eq_true rfl, Nat.le_of_ble_eq_true rfl⟩) ⟨fun a U g mk q => by obtain ⟨q0, q1, qP, qK, qD⟩ := q; exact ⟨q0, q1, qP, va_K.moved (u := U) (U := U.calling g mk a) (Vm.Alike.refl U.vm) qK, qD⟩, fun U hU hW => ⟨rfl, by rw [hU], by rw [hU]; exact hPc, va_K.moved hW.alike hK, hDc.weaken (fun _ _ _ _ => trivial)⟩⟩ rfl rfl hl.1 rfl (lv_room (Nat.le_of_ble_eq_true rfl)) dX9_init_12 ⟨Nat.le_of_ble_eq_true rfl, Nat.le_of_ble_eq_true rfl⟩) hS (fun q _ h => hFc q h) hFc (fun u t H1 locs ht hvm hw hB hz1 hk1 hSn => ?_)
  refine Exists.elim hB (fun ar_2 hB2_0 => ?_)
  refine And.elim (fun hP1 hD1 => ?_) hB2_0
  clear hB hB2_0
  rw [ht] at hP1
  obtain ⟨hPn, hDn⟩ := va_join (wr := [(o, .inr (9, [.null, .null, .null, .null, .null, .null, .null, .null, .null, .null, .null, .int 0]))]) (w1 := [(q_1, .inr (5, [.ref ar_2, .int 0])), (ar_2, .inl (cI, 300, .inl (fun _ => 0)))]) hP hD [1] [0] rfl rfl (by decide +kernel) (by decide +kernel) hk1 hFc hP1 hD1
  clear hP hD hS hPc hDc hFc hk1 hz1 hvm ht hP1 hD1
  generalize H1 = H at hPn hSn ⊢
  have hP : va_P (dC, dI) vwCl [(o, .inr (9, [.null, .null, .null, .null, .null, .null, .null, .null, .null, .null, .null, .int 0])), (q_1, .inr (5, [.ref ar_2, .int 0])), (ar_2, .inl (cI, 300, .inl (fun _ => 0)))] H := hPn
  have hD : va_D A [(o, .inr (9, [.null, .null, .null, .null, .null, .null, .null, .null, .null, .null, .null, .int 0])), (q_1, .inr (5, [.ref ar_2, .int 0])), (ar_2, .inl (cI, 300, .inl (fun _ => 0)))] := hDn
  have hS := hSn
  clear hPn hDn hSn
  refine W.widen (k := 2) (n := 302) (Nat.le_of_ble_eq_true rfl) (Nat.le_of_ble_eq_true rfl) ?_
  refine va_putF (D := (dC, dI)) (ci := 9) (v := .ref q_1) (ty := .object "TextMender$Numbers") (C := RX9) (T := TX9) (N := 12) hx hb hts in_X9 tyX9 tyX9_ok nmX9 hown hK hP hD hS 0 rfl rfl 2 (by decide) (hts (.fieldLink RX9 14 "TextMender$Rows" "one" "LTextMender$Numbers;") (List.mem_of_getElem? (i := 7) rfl)) (fun _ h9 => h9) rfl hin rfl (tyX9_ok 2 (Nat.le_of_ble_eq_true rfl)) rfl rfl (Nat.le_of_ble_eq_true rfl) dX9_init_15 (fun H locs hPn hDn hSn => ?_)
  clear hP hD hS
  have hP : va_P (dC, dI) vwCl [(o, .inr (9, [.null, .null, .ref q_1, .null, .null, .null, .null, .null, .null, .null, .null, .int 0])), (q_1, .inr (5, [.ref ar_2, .int 0])), (ar_2, .inl (cI, 300, .inl (fun _ => 0)))] H := hPn
  have hD : va_D A [(o, .inr (9, [.null, .null, .ref q_1, .null, .null, .null, .null, .null, .null, .null, .null, .int 0])), (q_1, .inr (5, [.ref ar_2, .int 0])), (ar_2, .inl (cI, 300, .inl (fun _ => 0)))] := hDn
  have hS := hSn
  clear hPn hDn hSn
  refine lv_aload_n hx hb dX9_init_18 rfl (lv_at hl 0 rfl) ?_
  refine va_new (ci := 5) (fs := [.null, .int 0]) (C := RX5) (T := TX5) (N := 2) hx hb hts in_X5 tyX5 tyX5_ok hown (hts (.classLink RX9 9 RX5) (List.mem_of_getElem? (i := 4) rfl)) (hts (.instantiable RX5 2) (List.mem_of_getElem? (i := 5) rfl)) (hts (.initialized RX5) (List.mem_of_getElem? (i := 6) rfl)) hK hP hD hS hA rfl (p_fsX5) (Nat.le_of_ble_eq_true rfl) (Nat.le_of_ble_eq_true rfl) dX9_init_19 (fun q_3 H hPn hDn hSn => ?_)
  clear hP hD hS
  have hP : va_P (dC, dI) vwCl [(o, .inr (9, [.null, .null, .ref q_1, .null, .null, .null, .null, .null, .null, .null, .null, .int 0])), (q_1, .inr (5, [.ref ar_2, .int 0])), (ar_2, .inl (cI, 300, .inl (fun _ => 0))), (q_3, .inr (5, [.null, .int 0]))] H := hPn
  have hD : va_D A [(o, .inr (9, [.null, .null, .ref q_1, .null, .null, .null, .null, .null, .null, .null, .null, .int 0])), (q_1, .inr (5, [.ref ar_2, .int 0])), (ar_2, .inl (cI, 300, .inl (fun _ => 0))), (q_3, .inr (5, [.null, .int 0]))] := hDn
  have hS := hSn
  clear hPn hDn hSn
  refine W.widen (k := 3) (n := 304) (Nat.le_of_ble_eq_true rfl) (Nat.le_of_ble_eq_true rfl) ?_
  refine lv_dup hx hb dX9_init_22 rfl ?_
  refine lv_sipush (v := 300) hx hb dX9_init_23 (by decide) ?_
  have hPc := hP.sub (ws' := [(q_3, .inr (5, [.null, .int 0]))]) [3] rfl
  have hDc := hD.sub (ws' := [(q_3, .inr (5, [.null, .int 0]))]) [3] (by decide +kernel) rfl
  have hFc := va_free (wc := [(q_3, .inr (5, [.null, .int 0]))]) hD hS hA [3] rfl
  refine va_callv (va_runI (As := [.int 300]) (rest := [.ref q_3, .ref o]) ⟨hx, hb, hml, hown, hts⟩ (k_X5_init l dC dI cI cS H.size q_3 300 300 (by decide) (by decide) (by decide)) (cwI 1 hts gX9_init_X5_init rfl rfl rfl (hts (.initialized RX5) (List.mem_of_getElem? (i := 6) rfl)) (hts (.methodLink RX9 11 yX5_init) (List.mem_of_getElem? (i := 20) rfl)) (hts (.instanceMethod yX5_init) (List.mem_of_getElem? (i := 21) rfl)) rfl (by decide +kernel) ⟨Nat.le_of_ble_eq_true rfl, Nat.le_of_ble_eq_true rfl⟩) ⟨fun a U g mk q => by obtain ⟨q0, q1, qP, qK, qD⟩ := q; exact ⟨q0, q1, qP, va_K.moved (u := U) (U := U.calling g mk a) (Vm.Alike.refl U.vm) qK, qD⟩, fun U hU hW => ⟨rfl, by rw [hU], by rw [hU]; exact hPc, va_K.moved hW.alike hK, hDc.weaken (fun _ _ _ _ => trivial)⟩⟩ rfl rfl hl.1 rfl (lv_room (Nat.le_of_ble_eq_true rfl)) dX9_init_26 ⟨Nat.le_of_ble_eq_true rfl, Nat.le_of_ble_eq_true rfl⟩) hS (fun q _ h => hFc q h) hFc (fun u t H1 locs ht hvm hw hB hz1 hk1 hSn => ?_)
  refine Exists.elim hB (fun ar_4 hB4_0 => ?_)
  refine And.elim (fun hP1 hD1 => ?_) hB4_0
  clear hB hB4_0
  rw [ht] at hP1
  obtain ⟨hPn, hDn⟩ := va_join (wr := [(o, .inr (9, [.null, .null, .ref q_1, .null, .null, .null, .null, .null, .null, .null, .null, .int 0])), (q_1, .inr (5, [.ref ar_2, .int 0])), (ar_2, .inl (cI, 300, .inl (fun _ => 0)))]) (w1 := [(q_3, .inr (5, [.ref ar_4, .int 0])), (ar_4, .inl (cI, 300, .inl (fun _ => 0)))]) hP hD [3] [0, 1, 2] rfl rfl (by decide +kernel) (by decide +kernel) hk1 hFc hP1 hD1
  clear hP hD hS hPc hDc hFc hk1 hz1 hvm ht hP1 hD1
  generalize H1 = H at hPn hSn ⊢
  have hP : va_P (dC, dI) vwCl [(o, .inr (9, [.null, .null, .ref q_1, .null, .null, .null, .null, .null, .null, .null, .null, .int 0])), (q_1, .inr (5, [.ref ar_2, .int 0])), (ar_2, .inl (cI, 300, .inl (fun _ => 0))), (q_3, .inr (5, [.ref ar_4, .int 0])), (ar_4, .inl (cI, 300, .inl (fun _ => 0)))] H := hPn
  have hD : va_D A [(o, .inr (9, [.null, .null, .ref q_1, .null, .null, .null, .null, .null, .null, .null, .null, .int 0])), (q_1, .inr (5, [.ref ar_2, .int 0])), (ar_2, .inl (cI, 300, .inl (fun _ => 0))), (q_3, .inr (5, [.ref ar_4, .int 0])), (ar_4, .inl (cI, 300, .inl (fun _ => 0)))] := hDn
  have hS := hSn
  clear hPn hDn hSn
  refine W.widen (k := 4) (n := 604) (Nat.le_of_ble_eq_true rfl) (Nat.le_of_ble_eq_true rfl) ?_
  refine va_putF (D := (dC, dI)) (ci := 9) (v := .ref q_3) (ty := .object "TextMender$Numbers") (C := RX9) (T := TX9) (N := 12) hx hb hts in_X9 tyX9 tyX9_ok nmX9 hown hK hP hD hS 0 rfl rfl 3 (by decide) (hts (.fieldLink RX9 20 "TextMender$Rows" "two" "LTextMender$Numbers;") (List.mem_of_getElem? (i := 8) rfl)) (fun _ h9 => h9) rfl hin rfl (tyX9_ok 3 (Nat.le_of_ble_eq_true rfl)) rfl rfl (Nat.le_of_ble_eq_true rfl) dX9_init_29 (fun H locs hPn hDn hSn => ?_)
  clear hP hD hS
  have hP : va_P (dC, dI) vwCl [(o, .inr (9, [.null, .null, .ref q_1, .ref q_3, .null, .null, .null, .null, .null, .null, .null, .int 0])), (q_1, .inr (5, [.ref ar_2, .int 0])), (ar_2, .inl (cI, 300, .inl (fun _ => 0))), (q_3, .inr (5, [.ref ar_4, .int 0])), (ar_4, .inl (cI, 300, .inl (fun _ => 0)))] H := hPn
  have hD : va_D A [(o, .inr (9, [.null, .null, .ref q_1, .ref q_3, .null, .null, .null, .null, .null, .null, .null, .int 0])), (q_1, .inr (5, [.ref ar_2, .int 0])), (ar_2, .inl (cI, 300, .inl (fun _ => 0))), (q_3, .inr (5, [.ref ar_4, .int 0])), (ar_4, .inl (cI, 300, .inl (fun _ => 0)))] := hDn
  have hS := hSn
  clear hPn hDn hSn
  refine lv_aload_n hx hb dX9_init_32 rfl (lv_at hl 0 rfl) ?_
  refine va_new (ci := 5) (fs := [.null, .int 0]) (C := RX5) (T := TX5) (N := 2) hx hb hts in_X5 tyX5 tyX5_ok hown (hts (.classLink RX9 9 RX5) (List.mem_of_getElem? (i := 4) rfl)) (hts (.instantiable RX5 2) (List.mem_of_getElem? (i := 5) rfl)) (hts (.initialized RX5) (List.mem_of_getElem? (i := 6) rfl)) hK hP hD hS hA rfl (p_fsX5) (Nat.le_of_ble_eq_true rfl) (Nat.le_of_ble_eq_true rfl) dX9_init_33 (fun q_5 H hPn hDn hSn => ?_)
  clear hP hD hS
  have hP : va_P (dC, dI) vwCl [(o, .inr (9, [.null, .null, .ref q_1, .ref q_3, .null, .null, .null, .null, .null, .null, .null, .int 0])), (q_1, .inr (5, [.ref ar_2, .int 0])), (ar_2, .inl (cI, 300, .inl (fun _ => 0))), (q_3, .inr (5, [.ref ar_4, .int 0])), (ar_4, .inl (cI, 300, .inl (fun _ => 0))), (q_5, .inr (5, [.null, .int 0]))] H := hPn
  have hD : va_D A [(o, .inr (9, [.null, .null, .ref q_1, .ref q_3, .null, .null, .null, .null, .null, .null, .null, .int 0])), (q_1, .inr (5, [.ref ar_2, .int 0])), (ar_2, .inl (cI, 300, .inl (fun _ => 0))), (q_3, .inr (5, [.ref ar_4, .int 0])), (ar_4, .inl (cI, 300, .inl (fun _ => 0))), (q_5, .inr (5, [.null, .int 0]))] := hDn
  have hS := hSn
  clear hPn hDn hSn
  refine W.widen (k := 5) (n := 606) (Nat.le_of_ble_eq_true rfl) (Nat.le_of_ble_eq_true rfl) ?_
  refine lv_dup hx hb dX9_init_36 rfl ?_
  refine lv_sipush (v := 300) hx hb dX9_init_37 (by decide) ?_
  have hPc := hP.sub (ws' := [(q_5, .inr (5, [.null, .int 0]))]) [5] rfl
  have hDc := hD.sub (ws' := [(q_5, .inr (5, [.null, .int 0]))]) [5] (by decide +kernel) rfl
  have hFc := va_free (wc := [(q_5, .inr (5, [.null, .int 0]))]) hD hS hA [5] rfl
  refine va_callv (va_runI (As := [.int 300]) (rest := [.ref q_5, .ref o]) ⟨hx, hb, hml, hown, hts⟩ (k_X5_init l dC dI cI cS H.size q_5 300 300 (by decide) (by decide) (by decide)) (cwI 1 hts gX9_init_X5_init rfl rfl rfl (hts (.initialized RX5) (List.mem_of_getElem? (i := 6) rfl)) (hts (.methodLink RX9 11 yX5_init) (List.mem_of_getElem? (i := 20) rfl)) (hts (.instanceMethod yX5_init) (List.mem_of_getElem? (i := 21) rfl)) rfl (by decide +kernel) ⟨Nat.le_of_ble_eq_true rfl, Nat.le_of_ble_eq_true rfl⟩) ⟨fun a U g mk q => by obtain ⟨q0, q1, qP, qK, qD⟩ := q; exact ⟨q0, q1, qP, va_K.moved (u := U) (U := U.calling g mk a) (Vm.Alike.refl U.vm) qK, qD⟩, fun U hU hW => ⟨rfl, by rw [hU], by rw [hU]; exact hPc, va_K.moved hW.alike hK, hDc.weaken (fun _ _ _ _ => trivial)⟩⟩ rfl rfl hl.1 rfl (lv_room (Nat.le_of_ble_eq_true rfl)) dX9_init_40 ⟨Nat.le_of_ble_eq_true rfl, Nat.le_of_ble_eq_true rfl⟩) hS (fun q _ h => hFc q h) hFc (fun u t H1 locs ht hvm hw hB hz1 hk1 hSn => ?_)
  refine Exists.elim hB (fun ar_6 hB6_0 => ?_)
  refine And.elim (fun hP1 hD1 => ?_) hB6_0
  clear hB hB6_0
  rw [ht] at hP1
  obtain ⟨hPn, hDn⟩ := va_join (wr := [(o, .inr (9, [.null, .null, .ref q_1, .ref q_3, .null, .null, .null, .null, .null, .null, .null, .int 0])), (q_1, .inr (5, [.ref ar_2, .int 0])), (ar_2, .inl (cI, 300, .inl (fun _ => 0))), (q_3, .inr (5, [.ref ar_4, .int 0])), (ar_4, .inl (cI, 300, .inl (fun _ => 0)))]) (w1 := [(q_5, .inr (5, [.ref ar_6, .int 0])), (ar_6, .inl (cI, 300, .inl (fun _ => 0)))]) hP hD [5] [0, 1, 2, 3, 4] rfl rfl (by decide +kernel) (by decide +kernel) hk1 hFc hP1 hD1
  clear hP hD hS hPc hDc hFc hk1 hz1 hvm ht hP1 hD1
  generalize H1 = H at hPn hSn ⊢
  have hP : va_P (dC, dI) vwCl [(o, .inr (9, [.null, .null, .ref q_1, .ref q_3, .null, .null, .null, .null, .null, .null, .null, .int 0])), (q_1, .inr (5, [.ref ar_2, .int 0])), (ar_2, .inl (cI, 300, .inl (fun _ => 0))), (q_3, .inr (5, [.ref ar_4, .int 0])), (ar_4, .inl (cI, 300, .inl (fun _ => 0))), (q_5, .inr (5, [.ref ar_6, .int 0])), (ar_6, .inl (cI, 300, .inl (fun _ => 0)))] H := hPn
  have hD : va_D A [(o, .inr (9, [.null, .null, .ref q_1, .ref q_3, .null, .null, .null, .null, .null, .null, .null, .int 0])), (q_1, .inr (5, [.ref ar_2, .int 0])), (ar_2, .inl (cI, 300, .inl (fun _ => 0))), (q_3, .inr (5, [.ref ar_4, .int 0])), (ar_4, .inl (cI, 300, .inl (fun _ => 0))), (q_5, .inr (5, [.ref ar_6, .int 0])), (ar_6, .inl (cI, 300, .inl (fun _ => 0)))] := hDn
  have hS := hSn
  clear hPn hDn hSn
  refine W.widen (k := 6) (n := 906) (Nat.le_of_ble_eq_true rfl) (Nat.le_of_ble_eq_true rfl) ?_
  refine va_putF (D := (dC, dI)) (ci := 9) (v := .ref q_5) (ty := .object "TextMender$Numbers") (C := RX9) (T := TX9) (N := 12) hx hb hts in_X9 tyX9 tyX9_ok nmX9 hown hK hP hD hS 0 rfl rfl 4 (by decide) (hts (.fieldLink RX9 23 "TextMender$Rows" "three" "LTextMender$Numbers;") (List.mem_of_getElem? (i := 9) rfl)) (fun _ h9 => h9) rfl hin rfl (tyX9_ok 4 (Nat.le_of_ble_eq_true rfl)) rfl rfl (Nat.le_of_ble_eq_true rfl) dX9_init_43 (fun H locs hPn hDn hSn => ?_)
  clear hP hD hS
  have hP : va_P (dC, dI) vwCl [(o, .inr (9, [.null, .null, .ref q_1, .ref q_3, .ref q_5, .null, .null, .null, .null, .null, .null, .int 0])), (q_1, .inr (5, [.ref ar_2, .int 0])), (ar_2, .inl (cI, 300, .inl (fun _ => 0))), (q_3, .inr (5, [.ref ar_4, .int 0])), (ar_4, .inl (cI, 300, .inl (fun _ => 0))), (q_5, .inr (5, [.ref ar_6, .int 0])), (ar_6, .inl (cI, 300, .inl (fun _ => 0)))] H := hPn
  have hD : va_D A [(o, .inr (9, [.null, .null, .ref q_1, .ref q_3, .ref q_5, .null, .null, .null, .null, .null, .null, .int 0])), (q_1, .inr (5, [.ref ar_2, .int 0])), (ar_2, .inl (cI, 300, .inl (fun _ => 0))), (q_3, .inr (5, [.ref ar_4, .int 0])), (ar_4, .inl (cI, 300, .inl (fun _ => 0))), (q_5, .inr (5, [.ref ar_6, .int 0])), (ar_6, .inl (cI, 300, .inl (fun _ => 0)))] := hDn
  have hS := hSn
  clear hPn hDn hSn
  refine lv_aload_n hx hb dX9_init_46 rfl (lv_at hl 0 rfl) ?_
  refine lv_sipush (v := 258) hx hb dX9_init_47 (by decide) ?_
  refine p_newint hx hb (hts (.arrayClass .int) (List.mem_of_getElem? (i := 10) rfl)) hK hP hD hS hA (n := 258) (N := 258) (by decide) (by decide) (by decide) (Nat.le_of_ble_eq_true rfl) (Nat.le_of_ble_eq_true rfl) dX9_init_50 (fun q_7 H hPn hDn hSn => ?_)
  clear hP hD hS
  have hP : va_P (dC, dI) vwCl [(o, .inr (9, [.null, .null, .ref q_1, .ref q_3, .ref q_5, .null, .null, .null, .null, .null, .null, .int 0])), (q_1, .inr (5, [.ref ar_2, .int 0])), (ar_2, .inl (cI, 300, .inl (fun _ => 0))), (q_3, .inr (5, [.ref ar_4, .int 0])), (ar_4, .inl (cI, 300, .inl (fun _ => 0))), (q_5, .inr (5, [.ref ar_6, .int 0])), (ar_6, .inl (cI, 300, .inl (fun _ => 0))), (q_7, .inl (cI, 258, .inl (fun _ => 0)))] H := hPn
  have hD : va_D A [(o, .inr (9, [.null, .null, .ref q_1, .ref q_3, .ref q_5, .null, .null, .null, .null, .null, .null, .int 0])), (q_1, .inr (5, [.ref ar_2, .int 0])), (ar_2, .inl (cI, 300, .inl (fun _ => 0))), (q_3, .inr (5, [.ref ar_4, .int 0])), (ar_4, .inl (cI, 300, .inl (fun _ => 0))), (q_5, .inr (5, [.ref ar_6, .int 0])), (ar_6, .inl (cI, 300, .inl (fun _ => 0))), (q_7, .inl (cI, 258, .inl (fun _ => 0)))] := hDn
  have hS := hSn
  clear hPn hDn hSn
  refine W.widen (k := 7) (n := 1164) (Nat.le_of_ble_eq_true rfl) (Nat.le_of_ble_eq_true rfl) ?_
  refine va_putF (D := (dC, dI)) (ci := 9) (v := .ref q_7) (ty := .array .int) (C := RX9) (T := TX9) (N := 12) hx hb hts in_X9 tyX9 tyX9_ok nmX9 hown hK hP hD hS 0 rfl rfl 5 (by decide) (hts (.fieldLink RX9 26 "TextMender$Rows" "foundCost" "[I") (List.mem_of_getElem? (i := 11) rfl)) (fun _ h9 => h9) rfl hin rfl (tyX9_ok 5 (Nat.le_of_ble_eq_true rfl)) rfl rfl (Nat.le_of_ble_eq_true rfl) dX9_init_52 (fun H locs hPn hDn hSn => ?_)
  clear hP hD hS
  have hP : va_P (dC, dI) vwCl [(o, .inr (9, [.null, .null, .ref q_1, .ref q_3, .ref q_5, .ref q_7, .null, .null, .null, .null, .null, .int 0])), (q_1, .inr (5, [.ref ar_2, .int 0])), (ar_2, .inl (cI, 300, .inl (fun _ => 0))), (q_3, .inr (5, [.ref ar_4, .int 0])), (ar_4, .inl (cI, 300, .inl (fun _ => 0))), (q_5, .inr (5, [.ref ar_6, .int 0])), (ar_6, .inl (cI, 300, .inl (fun _ => 0))), (q_7, .inl (cI, 258, .inl (fun _ => 0)))] H := hPn
  have hD : va_D A [(o, .inr (9, [.null, .null, .ref q_1, .ref q_3, .ref q_5, .ref q_7, .null, .null, .null, .null, .null, .int 0])), (q_1, .inr (5, [.ref ar_2, .int 0])), (ar_2, .inl (cI, 300, .inl (fun _ => 0))), (q_3, .inr (5, [.ref ar_4, .int 0])), (ar_4, .inl (cI, 300, .inl (fun _ => 0))), (q_5, .inr (5, [.ref ar_6, .int 0])), (ar_6, .inl (cI, 300, .inl (fun _ => 0))), (q_7, .inl (cI, 258, .inl (fun _ => 0)))] := hDn
  have hS := hSn
  clear hPn hDn hSn
  refine lv_aload_n hx hb dX9_init_55 rfl (lv_at hl 0 rfl) ?_
  refine lv_sipush (v := 258) hx hb dX9_init_56 (by decide) ?_
  refine p_newint hx hb (hts (.arrayClass .int) (List.mem_of_getElem? (i := 10) rfl)) hK hP hD hS hA (n := 258) (N := 258) (by decide) (by decide) (by decide) (Nat.le_of_ble_eq_true rfl) (Nat.le_of_ble_eq_true rfl) dX9_init_59 (fun q_8 H hPn hDn hSn => ?_)
  clear hP hD hS
  have hP : va_P (dC, dI) vwCl [(o, .inr (9, [.null, .null, .ref q_1, .ref q_3, .ref q_5, .ref q_7, .null, .null, .null, .null, .null, .int 0])), (q_1, .inr (5, [.ref ar_2, .int 0])), (ar_2, .inl (cI, 300, .inl (fun _ => 0))), (q_3, .inr (5, [.ref ar_4, .int 0])), (ar_4, .inl (cI, 300, .inl (fun _ => 0))), (q_5, .inr (5, [.ref ar_6, .int 0])), (ar_6, .inl (cI, 300, .inl (fun _ => 0))), (q_7, .inl (cI, 258, .inl (fun _ => 0))), (q_8, .inl (cI, 258, .inl (fun _ => 0)))] H := hPn
  have hD : va_D A [(o, .inr (9, [.null, .null, .ref q_1, .ref q_3, .ref q_5, .ref q_7, .null, .null, .null, .null, .null, .int 0])), (q_1, .inr (5, [.ref ar_2, .int 0])), (ar_2, .inl (cI, 300, .inl (fun _ => 0))), (q_3, .inr (5, [.ref ar_4, .int 0])), (ar_4, .inl (cI, 300, .inl (fun _ => 0))), (q_5, .inr (5, [.ref ar_6, .int 0])), (ar_6, .inl (cI, 300, .inl (fun _ => 0))), (q_7, .inl (cI, 258, .inl (fun _ => 0))), (q_8, .inl (cI, 258, .inl (fun _ => 0)))] := hDn
  have hS := hSn
  clear hPn hDn hSn
  refine W.widen (k := 8) (n := 1422) (Nat.le_of_ble_eq_true rfl) (Nat.le_of_ble_eq_true rfl) ?_
  refine va_putF (D := (dC, dI)) (ci := 9) (v := .ref q_8) (ty := .array .int) (C := RX9) (T := TX9) (N := 12) hx hb hts in_X9 tyX9 tyX9_ok nmX9 hown hK hP hD hS 0 rfl rfl 6 (by decide) (hts (.fieldLink RX9 30 "TextMender$Rows" "foundLength" "[I") (List.mem_of_getElem? (i := 12) rfl)) (fun _ h9 => h9) rfl hin rfl (tyX9_ok 6 (Nat.le_of_ble_eq_true rfl)) rfl rfl (Nat.le_of_ble_eq_true rfl) dX9_init_61 (fun H locs hPn hDn hSn => ?_)
  clear hP hD hS
  have hP : va_P (dC, dI) vwCl [(o, .inr (9, [.null, .null, .ref q_1, .ref q_3, .ref q_5, .ref q_7, .ref q_8, .null, .null, .null, .null, .int 0])), (q_1, .inr (5, [.ref ar_2, .int 0])), (ar_2, .inl (cI, 300, .inl (fun _ => 0))), (q_3, .inr (5, [.ref ar_4, .int 0])), (ar_4, .inl (cI, 300, .inl (fun _ => 0))), (q_5, .inr (5, [.ref ar_6, .int 0])), (ar_6, .inl (cI, 300, .inl (fun _ => 0))), (q_7, .inl (cI, 258, .inl (fun _ => 0))), (q_8, .inl (cI, 258, .inl (fun _ => 0)))] H := hPn
  have hD : va_D A [(o, .inr (9, [.null, .null, .ref q_1, .ref q_3, .ref q_5, .ref q_7, .ref q_8, .null, .null, .null, .null, .int 0])), (q_1, .inr (5, [.ref ar_2, .int 0])), (ar_2, .inl (cI, 300, .inl (fun _ => 0))), (q_3, .inr (5, [.ref ar_4, .int 0])), (ar_4, .inl (cI, 300, .inl (fun _ => 0))), (q_5, .inr (5, [.ref ar_6, .int 0])), (ar_6, .inl (cI, 300, .inl (fun _ => 0))), (q_7, .inl (cI, 258, .inl (fun _ => 0))), (q_8, .inl (cI, 258, .inl (fun _ => 0)))] := hDn
  have hS := hSn
  clear hPn hDn hSn
  refine lv_aload_n hx hb dX9_init_64 rfl (lv_at hl 0 rfl) ?_
  refine lv_sipush (v := 774) hx hb dX9_init_65 (by decide) ?_
  refine p_newint hx hb (hts (.arrayClass .int) (List.mem_of_getElem? (i := 10) rfl)) hK hP hD hS hA (n := 774) (N := 774) (by decide) (by decide) (by decide) (Nat.le_of_ble_eq_true rfl) (Nat.le_of_ble_eq_true rfl) dX9_init_68 (fun q_9 H hPn hDn hSn => ?_)
  clear hP hD hS
  have hP : va_P (dC, dI) vwCl [(o, .inr (9, [.null, .null, .ref q_1, .ref q_3, .ref q_5, .ref q_7, .ref q_8, .null, .null, .null, .null, .int 0])), (q_1, .inr (5, [.ref ar_2, .int 0])), (ar_2, .inl (cI, 300, .inl (fun _ => 0))), (q_3, .inr (5, [.ref ar_4, .int 0])), (ar_4, .inl (cI, 300, .inl (fun _ => 0))), (q_5, .inr (5, [.ref ar_6, .int 0])), (ar_6, .inl (cI, 300, .inl (fun _ => 0))), (q_7, .inl (cI, 258, .inl (fun _ => 0))), (q_8, .inl (cI, 258, .inl (fun _ => 0))), (q_9, .inl (cI, 774, .inl (fun _ => 0)))] H := hPn
  have hD : va_D A [(o, .inr (9, [.null, .null, .ref q_1, .ref q_3, .ref q_5, .ref q_7, .ref q_8, .null, .null, .null, .null, .int 0])), (q_1, .inr (5, [.ref ar_2, .int 0])), (ar_2, .inl (cI, 300, .inl (fun _ => 0))), (q_3, .inr (5, [.ref ar_4, .int 0])), (ar_4, .inl (cI, 300, .inl (fun _ => 0))), (q_5, .inr (5, [.ref ar_6, .int 0])), (ar_6, .inl (cI, 300, .inl (fun _ => 0))), (q_7, .inl (cI, 258, .inl (fun _ => 0))), (q_8, .inl (cI, 258, .inl (fun _ => 0))), (q_9, .inl (cI, 774, .inl (fun _ => 0)))] := hDn
  have hS := hSn
  clear hPn hDn hSn
  refine W.widen (k := 9) (n := 2196) (Nat.le_of_ble_eq_true rfl) (Nat.le_of_ble_eq_true rfl) ?_
  refine va_putF (D := (dC, dI)) (ci := 9) (v := .ref q_9) (ty := .array .int) (C := RX9) (T := TX9) (N := 12) hx hb hts in_X9 tyX9 tyX9_ok nmX9 hown hK hP hD hS 0 rfl rfl 7 (by decide) (hts (.fieldLink RX9 33 "TextMender$Rows" "foundHarms" "[I") (List.mem_of_getElem? (i := 13) rfl)) (fun _ h9 => h9) rfl hin rfl (tyX9_ok 7 (Nat.le_of_ble_eq_true rfl)) rfl rfl (Nat.le_of_ble_eq_true rfl) dX9_init_70 (fun H locs hPn hDn hSn => ?_)
  clear hP hD hS
  have hP : va_P (dC, dI) vwCl [(o, .inr (9, [.null, .null, .ref q_1, .ref q_3, .ref q_5, .ref q_7, .ref q_8, .ref q_9, .null, .null, .null, .int 0])), (q_1, .inr (5, [.ref ar_2, .int 0])), (ar_2, .inl (cI, 300, .inl (fun _ => 0))), (q_3, .inr (5, [.ref ar_4, .int 0])), (ar_4, .inl (cI, 300, .inl (fun _ => 0))), (q_5, .inr (5, [.ref ar_6, .int 0])), (ar_6, .inl (cI, 300, .inl (fun _ => 0))), (q_7, .inl (cI, 258, .inl (fun _ => 0))), (q_8, .inl (cI, 258, .inl (fun _ => 0))), (q_9, .inl (cI, 774, .inl (fun _ => 0)))] H := hPn
  have hD : va_D A [(o, .inr (9, [.null, .null, .ref q_1, .ref q_3, .ref q_5, .ref q_7, .ref q_8, .ref q_9, .null, .null, .null, .int 0])), (q_1, .inr (5, [.ref ar_2, .int 0])), (ar_2, .inl (cI, 300, .inl (fun _ => 0))), (q_3, .inr (5, [.ref ar_4, .int 0])), (ar_4, .inl (cI, 300, .inl (fun _ => 0))), (q_5, .inr (5, [.ref ar_6, .int 0])), (ar_6, .inl (cI, 300, .inl (fun _ => 0))), (q_7, .inl (cI, 258, .inl (fun _ => 0))), (q_8, .inl (cI, 258, .inl (fun _ => 0))), (q_9, .inl (cI, 774, .inl (fun _ => 0)))] := hDn
  have hS := hSn
  clear hPn hDn hSn
  refine lv_aload_n hx hb dX9_init_73 rfl (lv_at hl 0 rfl) ?_
  refine lv_sipush (v := 258) hx hb dX9_init_74 (by decide) ?_
  refine p_newint hx hb (hts (.arrayClass .int) (List.mem_of_getElem? (i := 10) rfl)) hK hP hD hS hA (n := 258) (N := 258) (by decide) (by decide) (by decide) (Nat.le_of_ble_eq_true rfl) (Nat.le_of_ble_eq_true rfl) dX9_init_77 (fun q_10 H hPn hDn hSn => ?_)
  clear hP hD hS
  have hP : va_P (dC, dI) vwCl [(o, .inr (9, [.null, .null, .ref q_1, .ref q_3, .ref q_5, .ref q_7, .ref q_8, .ref q_9, .null, .null, .null, .int 0])), (q_1, .inr (5, [.ref ar_2, .int 0])), (ar_2, .inl (cI, 300, .inl (fun _ => 0))), (q_3, .inr (5, [.ref ar_4, .int 0])), (ar_4, .inl (cI, 300, .inl (fun _ => 0))), (q_5, .inr (5, [.ref ar_6, .int 0])), (ar_6, .inl (cI, 300, .inl (fun _ => 0))), (q_7, .inl (cI, 258, .inl (fun _ => 0))), (q_8, .inl (cI, 258, .inl (fun _ => 0))), (q_9, .inl (cI, 774, .inl (fun _ => 0))), (q_10, .inl (cI, 258, .inl (fun _ => 0)))] H := hPn
  have hD : va_D A [(o, .inr (9, [.null, .null, .ref q_1, .ref q_3, .ref q_5, .ref q_7, .ref q_8, .ref q_9, .null, .null, .null, .int 0])), (q_1, .inr (5, [.ref ar_2, .int 0])), (ar_2, .inl (cI, 300, .inl (fun _ => 0))), (q_3, .inr (5, [.ref ar_4, .int 0])), (ar_4, .inl (cI, 300, .inl (fun _ => 0))), (q_5, .inr (5, [.ref ar_6, .int 0])), (ar_6, .inl (cI, 300, .inl (fun _ => 0))), (q_7, .inl (cI, 258, .inl (fun _ => 0))), (q_8, .inl (cI, 258, .inl (fun _ => 0))), (q_9, .inl (cI, 774, .inl (fun _ => 0))), (q_10, .inl (cI, 258, .inl (fun _ => 0)))] := hDn
  have hS := hSn
  clear hPn hDn hSn
  refine W.widen (k := 10) (n := 2454) (Nat.le_of_ble_eq_true rfl) (Nat.le_of_ble_eq_true rfl) ?_
  refine va_putF (D := (dC, dI)) (ci := 9) (v := .ref q_10) (ty := .array .int) (C := RX9) (T := TX9) (N := 12) hx hb hts in_X9 tyX9 tyX9_ok nmX9 hown hK hP hD hS 0 rfl rfl 8 (by decide) (hts (.fieldLink RX9 36 "TextMender$Rows" "toldCost" "[I") (List.mem_of_getElem? (i := 14) rfl)) (fun _ h9 => h9) rfl hin rfl (tyX9_ok 8 (Nat.le_of_ble_eq_true rfl)) rfl rfl (Nat.le_of_ble_eq_true rfl) dX9_init_79 (fun H locs hPn hDn hSn => ?_)
  clear hP hD hS
  have hP : va_P (dC, dI) vwCl [(o, .inr (9, [.null, .null, .ref q_1, .ref q_3, .ref q_5, .ref q_7, .ref q_8, .ref q_9, .ref q_10, .null, .null, .int 0])), (q_1, .inr (5, [.ref ar_2, .int 0])), (ar_2, .inl (cI, 300, .inl (fun _ => 0))), (q_3, .inr (5, [.ref ar_4, .int 0])), (ar_4, .inl (cI, 300, .inl (fun _ => 0))), (q_5, .inr (5, [.ref ar_6, .int 0])), (ar_6, .inl (cI, 300, .inl (fun _ => 0))), (q_7, .inl (cI, 258, .inl (fun _ => 0))), (q_8, .inl (cI, 258, .inl (fun _ => 0))), (q_9, .inl (cI, 774, .inl (fun _ => 0))), (q_10, .inl (cI, 258, .inl (fun _ => 0)))] H := hPn
  have hD : va_D A [(o, .inr (9, [.null, .null, .ref q_1, .ref q_3, .ref q_5, .ref q_7, .ref q_8, .ref q_9, .ref q_10, .null, .null, .int 0])), (q_1, .inr (5, [.ref ar_2, .int 0])), (ar_2, .inl (cI, 300, .inl (fun _ => 0))), (q_3, .inr (5, [.ref ar_4, .int 0])), (ar_4, .inl (cI, 300, .inl (fun _ => 0))), (q_5, .inr (5, [.ref ar_6, .int 0])), (ar_6, .inl (cI, 300, .inl (fun _ => 0))), (q_7, .inl (cI, 258, .inl (fun _ => 0))), (q_8, .inl (cI, 258, .inl (fun _ => 0))), (q_9, .inl (cI, 774, .inl (fun _ => 0))), (q_10, .inl (cI, 258, .inl (fun _ => 0)))] := hDn
  have hS := hSn
  clear hPn hDn hSn
  refine lv_aload_n hx hb dX9_init_82 rfl (lv_at hl 0 rfl) ?_
  refine lv_sipush (v := 258) hx hb dX9_init_83 (by decide) ?_
  refine p_newint hx hb (hts (.arrayClass .int) (List.mem_of_getElem? (i := 10) rfl)) hK hP hD hS hA (n := 258) (N := 258) (by decide) (by decide) (by decide) (Nat.le_of_ble_eq_true rfl) (Nat.le_of_ble_eq_true rfl) dX9_init_86 (fun q_11 H hPn hDn hSn => ?_)
  clear hP hD hS
  have hP : va_P (dC, dI) vwCl [(o, .inr (9, [.null, .null, .ref q_1, .ref q_3, .ref q_5, .ref q_7, .ref q_8, .ref q_9, .ref q_10, .null, .null, .int 0])), (q_1, .inr (5, [.ref ar_2, .int 0])), (ar_2, .inl (cI, 300, .inl (fun _ => 0))), (q_3, .inr (5, [.ref ar_4, .int 0])), (ar_4, .inl (cI, 300, .inl (fun _ => 0))), (q_5, .inr (5, [.ref ar_6, .int 0])), (ar_6, .inl (cI, 300, .inl (fun _ => 0))), (q_7, .inl (cI, 258, .inl (fun _ => 0))), (q_8, .inl (cI, 258, .inl (fun _ => 0))), (q_9, .inl (cI, 774, .inl (fun _ => 0))), (q_10, .inl (cI, 258, .inl (fun _ => 0))), (q_11, .inl (cI, 258, .inl (fun _ => 0)))] H := hPn
  have hD : va_D A [(o, .inr (9, [.null, .null, .ref q_1, .ref q_3, .ref q_5, .ref q_7, .ref q_8, .ref q_9, .ref q_10, .null, .null, .int 0])), (q_1, .inr (5, [.ref ar_2, .int 0])), (ar_2, .inl (cI, 300, .inl (fun _ => 0))), (q_3, .inr (5, [.ref ar_4, .int 0])), (ar_4, .inl (cI, 300, .inl (fun _ => 0))), (q_5, .inr (5, [.ref ar_6, .int 0])), (ar_6, .inl (cI, 300, .inl (fun _ => 0))), (q_7, .inl (cI, 258, .inl (fun _ => 0))), (q_8, .inl (cI, 258, .inl (fun _ => 0))), (q_9, .inl (cI, 774, .inl (fun _ => 0))), (q_10, .inl (cI, 258, .inl (fun _ => 0))), (q_11, .inl (cI, 258, .inl (fun _ => 0)))] := hDn
  have hS := hSn
  clear hPn hDn hSn
  refine W.widen (k := 11) (n := 2712) (Nat.le_of_ble_eq_true rfl) (Nat.le_of_ble_eq_true rfl) ?_
  refine va_putF (D := (dC, dI)) (ci := 9) (v := .ref q_11) (ty := .array .int) (C := RX9) (T := TX9) (N := 12) hx hb hts in_X9 tyX9 tyX9_ok nmX9 hown hK hP hD hS 0 rfl rfl 9 (by decide) (hts (.fieldLink RX9 39 "TextMender$Rows" "toldLength" "[I") (List.mem_of_getElem? (i := 15) rfl)) (fun _ h9 => h9) rfl hin rfl (tyX9_ok 9 (Nat.le_of_ble_eq_true rfl)) rfl rfl (Nat.le_of_ble_eq_true rfl) dX9_init_88 (fun H locs hPn hDn hSn => ?_)
  clear hP hD hS
  have hP : va_P (dC, dI) vwCl [(o, .inr (9, [.null, .null, .ref q_1, .ref q_3, .ref q_5, .ref q_7, .ref q_8, .ref q_9, .ref q_10, .ref q_11, .null, .int 0])), (q_1, .inr (5, [.ref ar_2, .int 0])), (ar_2, .inl (cI, 300, .inl (fun _ => 0))), (q_3, .inr (5, [.ref ar_4, .int 0])), (ar_4, .inl (cI, 300, .inl (fun _ => 0))), (q_5, .inr (5, [.ref ar_6, .int 0])), (ar_6, .inl (cI, 300, .inl (fun _ => 0))), (q_7, .inl (cI, 258, .inl (fun _ => 0))), (q_8, .inl (cI, 258, .inl (fun _ => 0))), (q_9, .inl (cI, 774, .inl (fun _ => 0))), (q_10, .inl (cI, 258, .inl (fun _ => 0))), (q_11, .inl (cI, 258, .inl (fun _ => 0)))] H := hPn
  have hD : va_D A [(o, .inr (9, [.null, .null, .ref q_1, .ref q_3, .ref q_5, .ref q_7, .ref q_8, .ref q_9, .ref q_10, .ref q_11, .null, .int 0])), (q_1, .inr (5, [.ref ar_2, .int 0])), (ar_2, .inl (cI, 300, .inl (fun _ => 0))), (q_3, .inr (5, [.ref ar_4, .int 0])), (ar_4, .inl (cI, 300, .inl (fun _ => 0))), (q_5, .inr (5, [.ref ar_6, .int 0])), (ar_6, .inl (cI, 300, .inl (fun _ => 0))), (q_7, .inl (cI, 258, .inl (fun _ => 0))), (q_8, .inl (cI, 258, .inl (fun _ => 0))), (q_9, .inl (cI, 774, .inl (fun _ => 0))), (q_10, .inl (cI, 258, .inl (fun _ => 0))), (q_11, .inl (cI, 258, .inl (fun _ => 0)))] := hDn
  have hS := hSn
  clear hPn hDn hSn
  refine lv_aload_n hx hb dX9_init_91 rfl (lv_at hl 0 rfl) ?_
  refine lv_sipush (v := 774) hx hb dX9_init_92 (by decide) ?_
  refine p_newint hx hb (hts (.arrayClass .int) (List.mem_of_getElem? (i := 10) rfl)) hK hP hD hS hA (n := 774) (N := 774) (by decide) (by decide) (by decide) (Nat.le_of_ble_eq_true rfl) (Nat.le_of_ble_eq_true rfl) dX9_init_95 (fun q_12 H hPn hDn hSn => ?_)
  clear hP hD hS
  have hP : va_P (dC, dI) vwCl [(o, .inr (9, [.null, .null, .ref q_1, .ref q_3, .ref q_5, .ref q_7, .ref q_8, .ref q_9, .ref q_10, .ref q_11, .null, .int 0])), (q_1, .inr (5, [.ref ar_2, .int 0])), (ar_2, .inl (cI, 300, .inl (fun _ => 0))), (q_3, .inr (5, [.ref ar_4, .int 0])), (ar_4, .inl (cI, 300, .inl (fun _ => 0))), (q_5, .inr (5, [.ref ar_6, .int 0])), (ar_6, .inl (cI, 300, .inl (fun _ => 0))), (q_7, .inl (cI, 258, .inl (fun _ => 0))), (q_8, .inl (cI, 258, .inl (fun _ => 0))), (q_9, .inl (cI, 774, .inl (fun _ => 0))), (q_10, .inl (cI, 258, .inl (fun _ => 0))), (q_11, .inl (cI, 258, .inl (fun _ => 0))), (q_12, .inl (cI, 774, .inl (fun _ => 0)))] H := hPn
  have hD : va_D A [(o, .inr (9, [.null, .null, .ref q_1, .ref q_3, .ref q_5, .ref q_7, .ref q_8, .ref q_9, .ref q_10, .ref q_11, .null, .int 0])), (q_1, .inr (5, [.ref ar_2, .int 0])), (ar_2, .inl (cI, 300, .inl (fun _ => 0))), (q_3, .inr (5, [.ref ar_4, .int 0])), (ar_4, .inl (cI, 300, .inl (fun _ => 0))), (q_5, .inr (5, [.ref ar_6, .int 0])), (ar_6, .inl (cI, 300, .inl (fun _ => 0))), (q_7, .inl (cI, 258, .inl (fun _ => 0))), (q_8, .inl (cI, 258, .inl (fun _ => 0))), (q_9, .inl (cI, 774, .inl (fun _ => 0))), (q_10, .inl (cI, 258, .inl (fun _ => 0))), (q_11, .inl (cI, 258, .inl (fun _ => 0))), (q_12, .inl (cI, 774, .inl (fun _ => 0)))] := hDn
  have hS := hSn
  clear hPn hDn hSn
  refine W.widen (k := 12) (n := 3486) (Nat.le_of_ble_eq_true rfl) (Nat.le_of_ble_eq_true rfl) ?_
  refine va_putF (D := (dC, dI)) (ci := 9) (v := .ref q_12) (ty := .array .int) (C := RX9) (T := TX9) (N := 12) hx hb hts in_X9 tyX9 tyX9_ok nmX9 hown hK hP hD hS 0 rfl rfl 10 (by decide) (hts (.fieldLink RX9 42 "TextMender$Rows" "toldHarms" "[I") (List.mem_of_getElem? (i := 16) rfl)) (fun _ h9 => h9) rfl hin rfl (tyX9_ok 10 (Nat.le_of_ble_eq_true rfl)) rfl rfl (Nat.le_of_ble_eq_true rfl) dX9_init_97 (fun H locs hPn hDn hSn => ?_)
  clear hP hD hS
  have hP : va_P (dC, dI) vwCl [(o, .inr (9, [.null, .null, .ref q_1, .ref q_3, .ref q_5, .ref q_7, .ref q_8, .ref q_9, .ref q_10, .ref q_11, .ref q_12, .int 0])), (q_1, .inr (5, [.ref ar_2, .int 0])), (ar_2, .inl (cI, 300, .inl (fun _ => 0))), (q_3, .inr (5, [.ref ar_4, .int 0])), (ar_4, .inl (cI, 300, .inl (fun _ => 0))), (q_5, .inr (5, [.ref ar_6, .int 0])), (ar_6, .inl (cI, 300, .inl (fun _ => 0))), (q_7, .inl (cI, 258, .inl (fun _ => 0))), (q_8, .inl (cI, 258, .inl (fun _ => 0))), (q_9, .inl (cI, 774, .inl (fun _ => 0))), (q_10, .inl (cI, 258, .inl (fun _ => 0))), (q_11, .inl (cI, 258, .inl (fun _ => 0))), (q_12, .inl (cI, 774, .inl (fun _ => 0)))] H := hPn
  have hD : va_D A [(o, .inr (9, [.null, .null, .ref q_1, .ref q_3, .ref q_5, .ref q_7, .ref q_8, .ref q_9, .ref q_10, .ref q_11, .ref q_12, .int 0])), (q_1, .inr (5, [.ref ar_2, .int 0])), (ar_2, .inl (cI, 300, .inl (fun _ => 0))), (q_3, .inr (5, [.ref ar_4, .int 0])), (ar_4, .inl (cI, 300, .inl (fun _ => 0))), (q_5, .inr (5, [.ref ar_6, .int 0])), (ar_6, .inl (cI, 300, .inl (fun _ => 0))), (q_7, .inl (cI, 258, .inl (fun _ => 0))), (q_8, .inl (cI, 258, .inl (fun _ => 0))), (q_9, .inl (cI, 774, .inl (fun _ => 0))), (q_10, .inl (cI, 258, .inl (fun _ => 0))), (q_11, .inl (cI, 258, .inl (fun _ => 0))), (q_12, .inl (cI, 774, .inl (fun _ => 0)))] := hDn
  have hS := hSn
  clear hPn hDn hSn
  refine lv_aload_n hx hb dX9_init_100 rfl (lv_at hl 0 rfl) ?_
  refine lv_aload_n hx hb dX9_init_101 rfl (lv_at hl 1 rfl) ?_
  refine va_putF (D := (dC, dI)) (ci := 9) (v := .ref oH) (ty := .object "TextMender$Harms") (C := RX9) (T := TX9) (N := 12) hx hb hts in_X9 tyX9 tyX9_ok nmX9 hown hK hP hD hS 0 rfl rfl 0 (by decide) (hts (.fieldLink RX9 45 "TextMender$Rows" "harms" "LTextMender$Harms;") (List.mem_of_getElem? (i := 17) rfl)) (fun _ h9 => h9) rfl hin rfl (tyX9_ok 0 (Nat.le_of_ble_eq_true rfl)) rfl rfl (Nat.le_of_ble_eq_true rfl) dX9_init_102 (fun H locs hPn hDn hSn => ?_)
  clear hP hD hS
  have hP : va_P (dC, dI) vwCl [(o, .inr (9, [.ref oH, .null, .ref q_1, .ref q_3, .ref q_5, .ref q_7, .ref q_8, .ref q_9, .ref q_10, .ref q_11, .ref q_12, .int 0])), (q_1, .inr (5, [.ref ar_2, .int 0])), (ar_2, .inl (cI, 300, .inl (fun _ => 0))), (q_3, .inr (5, [.ref ar_4, .int 0])), (ar_4, .inl (cI, 300, .inl (fun _ => 0))), (q_5, .inr (5, [.ref ar_6, .int 0])), (ar_6, .inl (cI, 300, .inl (fun _ => 0))), (q_7, .inl (cI, 258, .inl (fun _ => 0))), (q_8, .inl (cI, 258, .inl (fun _ => 0))), (q_9, .inl (cI, 774, .inl (fun _ => 0))), (q_10, .inl (cI, 258, .inl (fun _ => 0))), (q_11, .inl (cI, 258, .inl (fun _ => 0))), (q_12, .inl (cI, 774, .inl (fun _ => 0)))] H := hPn
  have hD : va_D A [(o, .inr (9, [.ref oH, .null, .ref q_1, .ref q_3, .ref q_5, .ref q_7, .ref q_8, .ref q_9, .ref q_10, .ref q_11, .ref q_12, .int 0])), (q_1, .inr (5, [.ref ar_2, .int 0])), (ar_2, .inl (cI, 300, .inl (fun _ => 0))), (q_3, .inr (5, [.ref ar_4, .int 0])), (ar_4, .inl (cI, 300, .inl (fun _ => 0))), (q_5, .inr (5, [.ref ar_6, .int 0])), (ar_6, .inl (cI, 300, .inl (fun _ => 0))), (q_7, .inl (cI, 258, .inl (fun _ => 0))), (q_8, .inl (cI, 258, .inl (fun _ => 0))), (q_9, .inl (cI, 774, .inl (fun _ => 0))), (q_10, .inl (cI, 258, .inl (fun _ => 0))), (q_11, .inl (cI, 258, .inl (fun _ => 0))), (q_12, .inl (cI, 774, .inl (fun _ => 0)))] := hDn
  have hS := hSn
  clear hPn hDn hSn
  refine lv_aload_n hx hb dX9_init_105 rfl (lv_at hl 0 rfl) ?_
  refine lv_aload_n hx hb dX9_init_106 rfl (lv_at hl 2 rfl) ?_
  refine va_putF (D := (dC, dI)) (ci := 9) (v := .ref oK) (ty := .object "TextMender$Costs") (C := RX9) (T := TX9) (N := 12) hx hb hts in_X9 tyX9 tyX9_ok nmX9 hown hK hP hD hS 0 rfl rfl 1 (by decide) (hts (.fieldLink RX9 49 "TextMender$Rows" "costs" "LTextMender$Costs;") (List.mem_of_getElem? (i := 18) rfl)) (fun _ h9 => h9) rfl hin rfl (tyX9_ok 1 (Nat.le_of_ble_eq_true rfl)) rfl rfl (Nat.le_of_ble_eq_true rfl) dX9_init_107 (fun H locs hPn hDn hSn => ?_)
  clear hP hD hS
  have hP : va_P (dC, dI) vwCl [(o, .inr (9, [.ref oH, .ref oK, .ref q_1, .ref q_3, .ref q_5, .ref q_7, .ref q_8, .ref q_9, .ref q_10, .ref q_11, .ref q_12, .int 0])), (q_1, .inr (5, [.ref ar_2, .int 0])), (ar_2, .inl (cI, 300, .inl (fun _ => 0))), (q_3, .inr (5, [.ref ar_4, .int 0])), (ar_4, .inl (cI, 300, .inl (fun _ => 0))), (q_5, .inr (5, [.ref ar_6, .int 0])), (ar_6, .inl (cI, 300, .inl (fun _ => 0))), (q_7, .inl (cI, 258, .inl (fun _ => 0))), (q_8, .inl (cI, 258, .inl (fun _ => 0))), (q_9, .inl (cI, 774, .inl (fun _ => 0))), (q_10, .inl (cI, 258, .inl (fun _ => 0))), (q_11, .inl (cI, 258, .inl (fun _ => 0))), (q_12, .inl (cI, 774, .inl (fun _ => 0)))] H := hPn
  have hD : va_D A [(o, .inr (9, [.ref oH, .ref oK, .ref q_1, .ref q_3, .ref q_5, .ref q_7, .ref q_8, .ref q_9, .ref q_10, .ref q_11, .ref q_12, .int 0])), (q_1, .inr (5, [.ref ar_2, .int 0])), (ar_2, .inl (cI, 300, .inl (fun _ => 0))), (q_3, .inr (5, [.ref ar_4, .int 0])), (ar_4, .inl (cI, 300, .inl (fun _ => 0))), (q_5, .inr (5, [.ref ar_6, .int 0])), (ar_6, .inl (cI, 300, .inl (fun _ => 0))), (q_7, .inl (cI, 258, .inl (fun _ => 0))), (q_8, .inl (cI, 258, .inl (fun _ => 0))), (q_9, .inl (cI, 774, .inl (fun _ => 0))), (q_10, .inl (cI, 258, .inl (fun _ => 0))), (q_11, .inl (cI, 258, .inl (fun _ => 0))), (q_12, .inl (cI, 774, .inl (fun _ => 0)))] := hDn
  have hS := hSn
  clear hPn hDn hSn
  refine lv_aload_n hx hb dX9_init_110 rfl (lv_at hl 0 rfl) ?_
  refine va_get (D := (dC, dI)) (ci := 9) (v := .ref q_7) (C := RX9) (T := TX9) (N := 12) hx hb hts in_X9 hown hK hP 0 rfl rfl 5 (by decide) (hts (.fieldLink RX9 26 "TextMender$Rows" "foundCost" "[I") (List.mem_of_getElem? (i := 11) rfl)) (fun _ h9 => h9) rfl dX9_init_111 ?_
  refine lv_iconst (v := (-1)) hx hb dX9_init_114 (by decide) ?_
  have hPc := hP.sub (ws' := [(q_7, .inl (cI, 258, .inl (fun _ => 0)))]) [7] rfl
  have hDc := hD.sub (ws' := [(q_7, .inl (cI, 258, .inl (fun _ => 0)))]) [7] (by decide +kernel) rfl
  have hFc := va_free (wc := [(q_7, .inl (cI, 258, .inl (fun _ => 0)))]) hD hS hA [7] rfl
  refine va_callv (va_runS (As := [.ref q_7, .int (-1)]) (rest := []) ⟨hx, hb, hml, hown, hts⟩ (k_J7_fill_53178 l dC dI cI cS H.size q_7 258 (-1) (fun _ => 0) (by decide)) (va_cwS 2 hts gX9_init_J7_fill_53178 rfl rfl rfl (by decide +kernel) ⟨Nat.le_of_ble_eq_true rfl, Nat.le_of_ble_eq_true rfl⟩) ⟨fun a U g mk q => by obtain ⟨q0, q1, qP, qK, qD⟩ := q; exact ⟨q0, q1, qP, va_K.moved (u := U) (U := U.calling g mk a) (Vm.Alike.refl U.vm) qK, qD⟩, fun U hU hW => ⟨rfl, by rw [hU], by rw [hU]; exact hPc, va_K.moved hW.alike hK, hDc.weaken (fun _ _ _ _ => trivial)⟩⟩ rfl rfl hl.1 rfl (lv_room (Nat.le_of_ble_eq_true rfl)) dX9_init_115 ⟨Nat.le_of_ble_eq_true rfl, Nat.le_of_ble_eq_true rfl⟩) hS (fun q _ h => hFc q h) hFc (fun u t H1 locs ht hvm hw hB hz1 hk1 hSn => ?_)
  refine And.elim (fun hP1 hD1 => ?_) hB
  clear hB
  rw [ht] at hP1
  obtain ⟨hPn, hDn⟩ := va_join (wr := [(o, .inr (9, [.ref oH, .ref oK, .ref q_1, .ref q_3, .ref q_5, .ref q_7, .ref q_8, .ref q_9, .ref q_10, .ref q_11, .ref q_12, .int 0])), (q_1, .inr (5, [.ref ar_2, .int 0])), (ar_2, .inl (cI, 300, .inl (fun _ => 0))), (q_3, .inr (5, [.ref ar_4, .int 0])), (ar_4, .inl (cI, 300, .inl (fun _ => 0))), (q_5, .inr (5, [.ref ar_6, .int 0])), (ar_6, .inl (cI, 300, .inl (fun _ => 0))), (q_8, .inl (cI, 258, .inl (fun _ => 0))), (q_9, .inl (cI, 774, .inl (fun _ => 0))), (q_10, .inl (cI, 258, .inl (fun _ => 0))), (q_11, .inl (cI, 258, .inl (fun _ => 0))), (q_12, .inl (cI, 774, .inl (fun _ => 0)))]) (w1 := [(q_7, .inl (cI, 258, .inl (fun _ => (-1))))]) hP hD [7] [0, 1, 2, 3, 4, 5, 6, 8, 9, 10, 11, 12] rfl rfl (by decide +kernel) (by decide +kernel) hk1 hFc hP1 hD1
  clear hP hD hS hPc hDc hFc hk1 hz1 hvm ht hP1 hD1
  generalize H1 = H at hPn hSn ⊢
  have hP : va_P (dC, dI) vwCl [(o, .inr (9, [.ref oH, .ref oK, .ref q_1, .ref q_3, .ref q_5, .ref q_7, .ref q_8, .ref q_9, .ref q_10, .ref q_11, .ref q_12, .int 0])), (q_1, .inr (5, [.ref ar_2, .int 0])), (ar_2, .inl (cI, 300, .inl (fun _ => 0))), (q_3, .inr (5, [.ref ar_4, .int 0])), (ar_4, .inl (cI, 300, .inl (fun _ => 0))), (q_5, .inr (5, [.ref ar_6, .int 0])), (ar_6, .inl (cI, 300, .inl (fun _ => 0))), (q_8, .inl (cI, 258, .inl (fun _ => 0))), (q_9, .inl (cI, 774, .inl (fun _ => 0))), (q_10, .inl (cI, 258, .inl (fun _ => 0))), (q_11, .inl (cI, 258, .inl (fun _ => 0))), (q_12, .inl (cI, 774, .inl (fun _ => 0))), (q_7, .inl (cI, 258, .inl (fun _ => (-1))))] H := hPn
  have hD : va_D A [(o, .inr (9, [.ref oH, .ref oK, .ref q_1, .ref q_3, .ref q_5, .ref q_7, .ref q_8, .ref q_9, .ref q_10, .ref q_11, .ref q_12, .int 0])), (q_1, .inr (5, [.ref ar_2, .int 0])), (ar_2, .inl (cI, 300, .inl (fun _ => 0))), (q_3, .inr (5, [.ref ar_4, .int 0])), (ar_4, .inl (cI, 300, .inl (fun _ => 0))), (q_5, .inr (5, [.ref ar_6, .int 0])), (ar_6, .inl (cI, 300, .inl (fun _ => 0))), (q_8, .inl (cI, 258, .inl (fun _ => 0))), (q_9, .inl (cI, 774, .inl (fun _ => 0))), (q_10, .inl (cI, 258, .inl (fun _ => 0))), (q_11, .inl (cI, 258, .inl (fun _ => 0))), (q_12, .inl (cI, 774, .inl (fun _ => 0))), (q_7, .inl (cI, 258, .inl (fun _ => (-1))))] := hDn
  have hS := hSn
  clear hPn hDn hSn
  refine lv_aload_n hx hb dX9_init_118 rfl (lv_at hl 0 rfl) ?_
  refine lv_iconst (v := 0) hx hb dX9_init_119 (by decide) ?_
  refine va_put (D := (dC, dI)) (ci := 9) (v := .int 0) (ty := .int) (C := RX9) (T := TX9) (N := 12) hx hb hts in_X9 tyX9 tyX9_ok nmX9 hown hK hP hD hS 0 rfl rfl 11 (by decide) (hts (.fieldLink RX9 59 "TextMender$Rows" "told" "I") (List.mem_of_getElem? (i := 19) rfl)) (fun _ h9 => h9) rfl (tyX9_ok 11 (Nat.le_of_ble_eq_true rfl)) rfl rfl (Nat.le_of_ble_eq_true rfl) dX9_init_120 (fun H locs hPn hDn hSn => ?_)
  clear hP hD hS
  have hP : va_P (dC, dI) vwCl [(o, .inr (9, [.ref oH, .ref oK, .ref q_1, .ref q_3, .ref q_5, .ref q_7, .ref q_8, .ref q_9, .ref q_10, .ref q_11, .ref q_12, .int 0])), (q_1, .inr (5, [.ref ar_2, .int 0])), (ar_2, .inl (cI, 300, .inl (fun _ => 0))), (q_3, .inr (5, [.ref ar_4, .int 0])), (ar_4, .inl (cI, 300, .inl (fun _ => 0))), (q_5, .inr (5, [.ref ar_6, .int 0])), (ar_6, .inl (cI, 300, .inl (fun _ => 0))), (q_8, .inl (cI, 258, .inl (fun _ => 0))), (q_9, .inl (cI, 774, .inl (fun _ => 0))), (q_10, .inl (cI, 258, .inl (fun _ => 0))), (q_11, .inl (cI, 258, .inl (fun _ => 0))), (q_12, .inl (cI, 774, .inl (fun _ => 0))), (q_7, .inl (cI, 258, .inl (fun _ => (-1))))] H := hPn
  have hD : va_D A [(o, .inr (9, [.ref oH, .ref oK, .ref q_1, .ref q_3, .ref q_5, .ref q_7, .ref q_8, .ref q_9, .ref q_10, .ref q_11, .ref q_12, .int 0])), (q_1, .inr (5, [.ref ar_2, .int 0])), (ar_2, .inl (cI, 300, .inl (fun _ => 0))), (q_3, .inr (5, [.ref ar_4, .int 0])), (ar_4, .inl (cI, 300, .inl (fun _ => 0))), (q_5, .inr (5, [.ref ar_6, .int 0])), (ar_6, .inl (cI, 300, .inl (fun _ => 0))), (q_8, .inl (cI, 258, .inl (fun _ => 0))), (q_9, .inl (cI, 774, .inl (fun _ => 0))), (q_10, .inl (cI, 258, .inl (fun _ => 0))), (q_11, .inl (cI, 258, .inl (fun _ => 0))), (q_12, .inl (cI, 774, .inl (fun _ => 0))), (q_7, .inl (cI, 258, .inl (fun _ => (-1))))] := hDn
  have hS := hSn
  clear hPn hDn hSn
  have hP9 := hP.sub (ws' := [(o, .inr (9, [.ref oH, .ref oK, .ref q_1, .ref q_3, .ref q_5, .ref q_7, .ref q_8, .ref q_9, .ref q_10, .ref q_11, .ref q_12, .int 0])), (q_1, .inr (5, [.ref ar_2, .int 0])), (ar_2, .inl (cI, 300, .inl (fun _ => 0))), (q_3, .inr (5, [.ref ar_4, .int 0])), (ar_4, .inl (cI, 300, .inl (fun _ => 0))), (q_5, .inr (5, [.ref ar_6, .int 0])), (ar_6, .inl (cI, 300, .inl (fun _ => 0))), (q_7, .inl (cI, 258, .inl (fun _ => (-1)))), (q_8, .inl (cI, 258, .inl (fun _ => 0))), (q_9, .inl (cI, 774, .inl (fun _ => 0))), (q_10, .inl (cI, 258, .inl (fun _ => 0))), (q_11, .inl (cI, 258, .inl (fun _ => 0))), (q_12, .inl (cI, 774, .inl (fun _ => 0)))]) [0, 1, 2, 3, 4, 5, 6, 12, 7, 8, 9, 10, 11] rfl
  have hD9 := hD.sub (ws' := [(o, .inr (9, [.ref oH, .ref oK, .ref q_1, .ref q_3, .ref q_5, .ref q_7, .ref q_8, .ref q_9, .ref q_10, .ref q_11, .ref q_12, .int 0])), (q_1, .inr (5, [.ref ar_2, .int 0])), (ar_2, .inl (cI, 300, .inl (fun _ => 0))), (q_3, .inr (5, [.ref ar_4, .int 0])), (ar_4, .inl (cI, 300, .inl (fun _ => 0))), (q_5, .inr (5, [.ref ar_6, .int 0])), (ar_6, .inl (cI, 300, .inl (fun _ => 0))), (q_7, .inl (cI, 258, .inl (fun _ => (-1)))), (q_8, .inl (cI, 258, .inl (fun _ => 0))), (q_9, .inl (cI, 774, .inl (fun _ => 0))), (q_10, .inl (cI, 258, .inl (fun _ => 0))), (q_11, .inl (cI, 258, .inl (fun _ => 0))), (q_12, .inl (cI, 774, .inl (fun _ => 0)))]) [0, 1, 2, 3, 4, 5, 6, 12, 7, 8, 9, 10, 11] (by decide +kernel) rfl
  refine W.widen (k := 12) (n := 3486) (by omega) (by omega) ?_
  exact W.vret hx hb hr (fun t ht hW => ⟨⟨(), rfl, trivial, q_1, q_3, q_5, ar_2, ar_4, ar_6, q_7, q_8, q_9, q_10, q_11, q_12, by rw [ht]; exact hP9, hD9⟩, hS.F ht⟩) (hS.2.2) dX9_init_123

set_option maxHeartbeats 4000000 in
set_option maxRecDepth 100000 in
theorem k_X8_init (l : Launch) (dC : Nat → ClassId) (dI : Nat → Nat → Nat) (cI cS : ClassId) (sz : Nat) (o : Nat) (oC : Nat) (oK : Nat)  : Met l yX8_init wsX8_init ({ frames := 1, cells := 0, slots := 0, locals := 20 } : Room) (va_Pc [.ref o, .ref oC, .ref oK] (fun U => U.heap.size = sz ∧ va_P (dC, dI) vwCl [(o, .inr (8, [.null, .null, .int 0, .int 0, .int 0, .int 0]))] U.heap ∧ va_K (dC, dI) vwCl [(cI, .int), (cS, .short)] U ∧ va_D (fun _ => True) [(o, .inr (8, [.null, .null, .int 0, .int 0, .int 0, .int 0]))])) (va_Qv (fun (_ : Unit) => True) (fun _ t => va_P (dC, dI) vwCl [(o, .inr (8, [.ref oC, .ref oK, .int 0, .int 32, .int 0, .int 0]))] t.heap ∧ va_D (va_A [(o, .inr (8, [.null, .null, .int 0, .int 0, .int 0, .int 0]))] sz) [(o, .inr (8, [.ref oC, .ref oK, .int 0, .int 32, .int 0, .int 0]))]) (va_A [(o, .inr (8, [.null, .null, .int 0, .int 0, .int 0, .int 0]))] sz)) 0 0 (va_A [(o, .inr (8, [.null, .null, .int 0, .int 0, .int 0, .int 0]))] sz) := by
  refine Met.ofW (cc := cX8_init) (maxL := 3) (ret := none) (by decide) rfl ?_
  intro p e s m args below meth c s₁ B hml hv
  obtain ⟨rfl, hsz, hP, hK, hD0⟩ := hv
  have hx := B.exec
  have hb := B.bytes
  have hr := B.returns
  have hts := atoms_spec (ws := wsX8_init) B.pre
  have hown : s.vm.findClass RX8 = some m.cls := findClass_of_methodNamed B.named
  have hlocks := B.notSynchronized
  have hin : meth.name = "<init>" := (name_of_methodNamed B.named B.method).1
  have in_X8 : ∀ w ∈ wsX80, w ∈ wsX8_init := fun _ h => List.mem_cons_of_mem _ (List.mem_append_right _ (h))
  subst hsz
  have hD := hD0.self (sz := s.heap.size)
  generalize hAe : va_A [(o, .inr (8, [.null, .null, .int 0, .int 0, .int 0, .int 0]))] s.heap.size = A at hD ⊢
  have hA : ∀ q : Nat, s.heap.size ≤ q → A q := fun q h => by rw [← hAe]; exact Or.inr h
  have hS : va_S A s.heap s.heap [] := va_S.rf
  have hP : va_P (dC, dI) vwCl [(o, .inr (8, [.null, .null, .int 0, .int 0, .int 0, .int 0]))] s.heap := hP
  have hl := lv_entry ([.ref o, .ref oC, .ref oK]) (n := 3) (Nat.le_of_ble_eq_true rfl)
  rw [lg_entry_eq]
  generalize (lg_sl ([.ref o, .ref oC, .ref oK]) ++ List.replicate (3 - (lg_sl ([.ref o, .ref oC, .ref oK])).length) Slot.unset).toArray = ls at hl ⊢
  have hl : lv_has ls 3 [(0, .ref o), (1, .ref oC), (2, .ref oK)] := hl
  refine lv_aload_n hx hb dX8_init_0 rfl (lv_at hl 0 rfl) ?_
  refine W.objInit hx hb hown (hts (.methodLink RX8 3 objectInit) (List.mem_of_getElem? (i := 1) rfl)) (hts (.instanceMethod objectInit) (List.mem_of_getElem? (i := 2) rfl)) (hts (.code objectInit ⟨#[0xb1]⟩ 1 none) (List.mem_of_getElem? (i := 3) rfl)) rfl (by rw [hml]; exact hl.1) rfl dX8_init_1 (Nat.le_of_ble_eq_true rfl) (Nat.le_of_ble_eq_true rfl) ?_
  refine W.eq (g2 := F0 m 4 ls []) rfl ?_
  refine lv_aload_n hx hb dX8_init_4 rfl (lv_at hl 0 rfl) ?_
  refine lv_aload_n hx hb dX8_init_5 rfl (lv_at hl 1 rfl) ?_
  refine va_putF (D := (dC, dI)) (ci := 8) (v := .ref oC) (ty := .object "TextMender$Codes") (C := RX8) (T := TX8) (N := 6) hx hb hts in_X8 tyX8 tyX8_ok nmX8 hown hK hP hD hS 0 rfl rfl 0 (by decide) (hts (.fieldLink RX8 9 "TextMender$Reading" "codes" "LTextMender$Codes;") (List.mem_of_getElem? (i := 4) rfl)) (fun _ h9 => h9) rfl hin rfl (tyX8_ok 0 (Nat.le_of_ble_eq_true rfl)) rfl rfl (Nat.le_of_ble_eq_true rfl) dX8_init_6 (fun H locs hPn hDn hSn => ?_)
  clear hP hD hS
  have hP : va_P (dC, dI) vwCl [(o, .inr (8, [.ref oC, .null, .int 0, .int 0, .int 0, .int 0]))] H := hPn
  have hD : va_D A [(o, .inr (8, [.ref oC, .null, .int 0, .int 0, .int 0, .int 0]))] := hDn
  have hS := hSn
  clear hPn hDn hSn
  refine lv_aload_n hx hb dX8_init_9 rfl (lv_at hl 0 rfl) ?_
  refine lv_aload_n hx hb dX8_init_10 rfl (lv_at hl 2 rfl) ?_
  refine va_putF (D := (dC, dI)) (ci := 8) (v := .ref oK) (ty := .object "TextMender$Costs") (C := RX8) (T := TX8) (N := 6) hx hb hts in_X8 tyX8 tyX8_ok nmX8 hown hK hP hD hS 0 rfl rfl 1 (by decide) (hts (.fieldLink RX8 15 "TextMender$Reading" "costs" "LTextMender$Costs;") (List.mem_of_getElem? (i := 5) rfl)) (fun _ h9 => h9) rfl hin rfl (tyX8_ok 1 (Nat.le_of_ble_eq_true rfl)) rfl rfl (Nat.le_of_ble_eq_true rfl) dX8_init_11 (fun H locs hPn hDn hSn => ?_)
  clear hP hD hS
  have hP : va_P (dC, dI) vwCl [(o, .inr (8, [.ref oC, .ref oK, .int 0, .int 0, .int 0, .int 0]))] H := hPn
  have hD : va_D A [(o, .inr (8, [.ref oC, .ref oK, .int 0, .int 0, .int 0, .int 0]))] := hDn
  have hS := hSn
  clear hPn hDn hSn
  refine lv_aload_n hx hb dX8_init_14 rfl (lv_at hl 0 rfl) ?_
  refine lv_iconst (v := 0) hx hb dX8_init_15 (by decide) ?_
  refine va_put (D := (dC, dI)) (ci := 8) (v := .int 0) (ty := .int) (C := RX8) (T := TX8) (N := 6) hx hb hts in_X8 tyX8 tyX8_ok nmX8 hown hK hP hD hS 0 rfl rfl 2 (by decide) (hts (.fieldLink RX8 19 "TextMender$Reading" "reached" "I") (List.mem_of_getElem? (i := 6) rfl)) (fun _ h9 => h9) rfl (tyX8_ok 2 (Nat.le_of_ble_eq_true rfl)) rfl rfl (Nat.le_of_ble_eq_true rfl) dX8_init_16 (fun H locs hPn hDn hSn => ?_)
  clear hP hD hS
  have hP : va_P (dC, dI) vwCl [(o, .inr (8, [.ref oC, .ref oK, .int 0, .int 0, .int 0, .int 0]))] H := hPn
  have hD : va_D A [(o, .inr (8, [.ref oC, .ref oK, .int 0, .int 0, .int 0, .int 0]))] := hDn
  have hS := hSn
  clear hPn hDn hSn
  refine lv_aload_n hx hb dX8_init_19 rfl (lv_at hl 0 rfl) ?_
  refine lv_bipush (v := 32) hx hb dX8_init_20 (by decide) ?_
  refine va_put (D := (dC, dI)) (ci := 8) (v := .int 32) (ty := .int) (C := RX8) (T := TX8) (N := 6) hx hb hts in_X8 tyX8 tyX8_ok nmX8 hown hK hP hD hS 0 rfl rfl 3 (by decide) (hts (.fieldLink RX8 23 "TextMender$Reading" "latest" "I") (List.mem_of_getElem? (i := 7) rfl)) (fun _ h9 => h9) rfl (tyX8_ok 3 (Nat.le_of_ble_eq_true rfl)) rfl rfl (Nat.le_of_ble_eq_true rfl) dX8_init_22 (fun H locs hPn hDn hSn => ?_)
  clear hP hD hS
  have hP : va_P (dC, dI) vwCl [(o, .inr (8, [.ref oC, .ref oK, .int 0, .int 32, .int 0, .int 0]))] H := hPn
  have hD : va_D A [(o, .inr (8, [.ref oC, .ref oK, .int 0, .int 32, .int 0, .int 0]))] := hDn
  have hS := hSn
  clear hPn hDn hSn
  refine lv_aload_n hx hb dX8_init_25 rfl (lv_at hl 0 rfl) ?_
  refine lv_iconst (v := 0) hx hb dX8_init_26 (by decide) ?_
  refine va_put (D := (dC, dI)) (ci := 8) (v := .int 0) (ty := .int) (C := RX8) (T := TX8) (N := 6) hx hb hts in_X8 tyX8 tyX8_ok nmX8 hown hK hP hD hS 0 rfl rfl 4 (by decide) (hts (.fieldLink RX8 26 "TextMender$Reading" "sum" "I") (List.mem_of_getElem? (i := 8) rfl)) (fun _ h9 => h9) rfl (tyX8_ok 4 (Nat.le_of_ble_eq_true rfl)) rfl rfl (Nat.le_of_ble_eq_true rfl) dX8_init_27 (fun H locs hPn hDn hSn => ?_)
  clear hP hD hS
  have hP : va_P (dC, dI) vwCl [(o, .inr (8, [.ref oC, .ref oK, .int 0, .int 32, .int 0, .int 0]))] H := hPn
  have hD : va_D A [(o, .inr (8, [.ref oC, .ref oK, .int 0, .int 32, .int 0, .int 0]))] := hDn
  have hS := hSn
  clear hPn hDn hSn
  refine lv_aload_n hx hb dX8_init_30 rfl (lv_at hl 0 rfl) ?_
  refine lv_iconst (v := 0) hx hb dX8_init_31 (by decide) ?_
  refine va_put (D := (dC, dI)) (ci := 8) (v := .int 0) (ty := .int) (C := RX8) (T := TX8) (N := 6) hx hb hts in_X8 tyX8 tyX8_ok nmX8 hown hK hP hD hS 0 rfl rfl 5 (by decide) (hts (.fieldLink RX8 29 "TextMender$Reading" "letters" "I") (List.mem_of_getElem? (i := 9) rfl)) (fun _ h9 => h9) rfl (tyX8_ok 5 (Nat.le_of_ble_eq_true rfl)) rfl rfl (Nat.le_of_ble_eq_true rfl) dX8_init_32 (fun H locs hPn hDn hSn => ?_)
  clear hP hD hS
  have hP : va_P (dC, dI) vwCl [(o, .inr (8, [.ref oC, .ref oK, .int 0, .int 32, .int 0, .int 0]))] H := hPn
  have hD : va_D A [(o, .inr (8, [.ref oC, .ref oK, .int 0, .int 32, .int 0, .int 0]))] := hDn
  have hS := hSn
  clear hPn hDn hSn
  have hP9 := hP.sub (ws' := [(o, .inr (8, [.ref oC, .ref oK, .int 0, .int 32, .int 0, .int 0]))]) [0] rfl
  have hD9 := hD.sub (ws' := [(o, .inr (8, [.ref oC, .ref oK, .int 0, .int 32, .int 0, .int 0]))]) [0] (by decide +kernel) rfl
  exact W.vret hx hb hr (fun t ht hW => ⟨⟨(), rfl, trivial, by rw [ht]; exact hP9, hD9⟩, hS.F ht⟩) (hS.2.2) dX8_init_35

set_option maxHeartbeats 4000000 in
set_option maxRecDepth 100000 in
theorem k_X6_init (l : Launch) (dC : Nat → ClassId) (dI : Nat → Nat → Nat) (cI cS : ClassId) (sz : Nat) (o : Nat) (oC : Nat) (oH : Nat) (oK : Nat)  : Met l yX6_init wsX6_init ({ frames := 2, cells := 11, slots := 1336, locals := 42 } : Room) (va_Pc [.ref o, .ref oC, .ref oH, .ref oK] (fun U => U.heap.size = sz ∧ va_P (dC, dI) vwCl [(o, .inr (6, [.null, .null, .null, .null, .null, .null, .null, .null, .null, .null, .null, .int 0]))] U.heap ∧ va_K (dC, dI) vwCl [(cI, .int), (cS, .short)] U ∧ va_D (fun _ => True) [(o, .inr (6, [.null, .null, .null, .null, .null, .null, .null, .null, .null, .null, .null, .int 0]))])) (va_Qv (fun (_ : Unit) => True) (fun _ t => ∃ (oE : Nat) (nq : Nat) (aq : Nat) (np : Nat) (ap : Nat) (nv : Nat) (av : Nat) (q1 : Nat) (q2 : Nat) (q3 : Nat) (q4 : Nat), va_P (dC, dI) vwCl [(o, .inr (6, [.ref oC, .ref oH, .ref oK, .ref oE, .ref nq, .ref np, .ref nv, .ref q1, .ref q2, .ref q3, .ref q4, .int 0])), (oE, .inr (8, [.ref oC, .ref oK, .int 0, .int 32, .int 0, .int 0])), (nq, .inr (5, [.ref aq, .int 0])), (aq, .inl (cI, 480, .inl (fun _ => 0))), (np, .inr (5, [.ref ap, .int 0])), (ap, .inl (cI, 300, .inl (fun _ => 0))), (nv, .inr (5, [.ref av, .int 0])), (av, .inl (cI, 300, .inl (fun _ => 0))), (q1, .inl (cI, 61, .inl (fun _ => 0))), (q2, .inl (cI, 61, .inl (fun _ => 0))), (q3, .inl (cI, 61, .inl (fun _ => 0))), (q4, .inl (cI, 61, .inl (fun _ => 0)))] t.heap ∧ va_D (va_A [(o, .inr (6, [.null, .null, .null, .null, .null, .null, .null, .null, .null, .null, .null, .int 0]))] sz) [(o, .inr (6, [.ref oC, .ref oH, .ref oK, .ref oE, .ref nq, .ref np, .ref nv, .ref q1, .ref q2, .ref q3, .ref q4, .int 0])), (oE, .inr (8, [.ref oC, .ref oK, .int 0, .int 32, .int 0, .int 0])), (nq, .inr (5, [.ref aq, .int 0])), (aq, .inl (cI, 480, .inl (fun _ => 0))), (np, .inr (5, [.ref ap, .int 0])), (ap, .inl (cI, 300, .inl (fun _ => 0))), (nv, .inr (5, [.ref av, .int 0])), (av, .inl (cI, 300, .inl (fun _ => 0))), (q1, .inl (cI, 61, .inl (fun _ => 0))), (q2, .inl (cI, 61, .inl (fun _ => 0))), (q3, .inl (cI, 61, .inl (fun _ => 0))), (q4, .inl (cI, 61, .inl (fun _ => 0)))]) (va_A [(o, .inr (6, [.null, .null, .null, .null, .null, .null, .null, .null, .null, .null, .null, .int 0]))] sz)) 11 1336 (va_A [(o, .inr (6, [.null, .null, .null, .null, .null, .null, .null, .null, .null, .null, .null, .int 0]))] sz) := by
  refine Met.ofW (cc := cX6_init) (maxL := 4) (ret := none) (by decide) rfl ?_
  intro p e s m args below meth c s₁ B hml hv
  obtain ⟨rfl, hsz, hP, hK, hD0⟩ := hv
  have hx := B.exec
  have hb := B.bytes
  have hr := B.returns
  have hts := atoms_spec (ws := wsX6_init) B.pre
  have hown : s.vm.findClass RX6 = some m.cls := findClass_of_methodNamed B.named
  have hlocks := B.notSynchronized
  have hin : meth.name = "<init>" := (name_of_methodNamed B.named B.method).1
  have in_X5 : ∀ w ∈ wsX50, w ∈ wsX6_init := fun _ h => List.mem_cons_of_mem _ (List.mem_append_left _ (List.mem_append_left _ (List.mem_append_left _ (List.mem_append_left _ (List.mem_append_right _ (h))))))
  have in_X6 : ∀ w ∈ wsX60, w ∈ wsX6_init := fun _ h => List.mem_cons_of_mem _ (List.mem_append_left _ (List.mem_append_left _ (List.mem_append_left _ (List.mem_append_right _ (h)))))
  have in_X8 : ∀ w ∈ wsX80, w ∈ wsX6_init := fun _ h => List.mem_cons_of_mem _ (List.mem_append_left _ (List.mem_append_left _ (List.mem_append_right _ (h))))
  subst hsz
  have hD := hD0.self (sz := s.heap.size)
  generalize hAe : va_A [(o, .inr (6, [.null, .null, .null, .null, .null, .null, .null, .null, .null, .null, .null, .int 0]))] s.heap.size = A at hD ⊢
  have hA : ∀ q : Nat, s.heap.size ≤ q → A q := fun q h => by rw [← hAe]; exact Or.inr h
  have hS : va_S A s.heap s.heap [] := va_S.rf
  have hP : va_P (dC, dI) vwCl [(o, .inr (6, [.null, .null, .null, .null, .null, .null, .null, .null, .null, .null, .null, .int 0]))] s.heap := hP
  have hl := lv_entry ([.ref o, .ref oC, .ref oH, .ref oK]) (n := 4) (Nat.le_of_ble_eq_true rfl)
  rw [lg_entry_eq]
  generalize (lg_sl ([.ref o, .ref oC, .ref oH, .ref oK]) ++ List.replicate (4 - (lg_sl ([.ref o, .ref oC, .ref oH, .ref oK])).length) Slot.unset).toArray = ls at hl ⊢
  have hl : lv_has ls 4 [(0, .ref o), (1, .ref oC), (2, .ref oH), (3, .ref oK)] := hl
  refine lv_aload_n hx hb dX6_init_0 rfl (lv_at hl 0 rfl) ?_
  refine W.objInit hx hb hown (hts (.methodLink RX6 3 objectInit) (List.mem_of_getElem? (i := 1) rfl)) (hts (.instanceMethod objectInit) (List.mem_of_getElem? (i := 2) rfl)) (hts (.code objectInit ⟨#[0xb1]⟩ 1 none) (List.mem_of_getElem? (i := 3) rfl)) rfl (by rw [hml]; exact hl.1) rfl dX6_init_1 (Nat.le_of_ble_eq_true rfl) (Nat.le_of_ble_eq_true rfl) ?_
  refine W.eq (g2 := F0 m 4 ls []) rfl ?_
  refine lv_aload_n hx hb dX6_init_4 rfl (lv_at hl 0 rfl) ?_
  refine va_new (ci := 5) (fs := [.null, .int 0]) (C := RX5) (T := TX5) (N := 2) hx hb hts in_X5 tyX5 tyX5_ok hown (hts (.classLink RX6 9 RX5) (List.mem_of_getElem? (i := 4) rfl)) (hts (.instantiable RX5 2) (List.mem_of_getElem? (i := 5) rfl)) (hts (.initialized RX5) (List.mem_of_getElem? (i := 6) rfl)) hK hP hD hS hA rfl (p_fsX5) (Nat.le_of_ble_eq_true rfl) (Nat.le_of_ble_eq_true rfl) dX6_init_5 (fun q_1 H hPn hDn hSn => ?_)
  clear hP hD hS
  have hP : va_P (dC, dI) vwCl [(o, .inr (6, [.null, .null, .null, .null, .null, .null, .null, .null, .null, .null, .null, .int 0])), (q_1, .inr (5, [.null, .int 0]))] H := hPn
  have hD : va_D A [(o, .inr (6, [.null, .null, .null, .null, .null, .null, .null, .null, .null, .null, .null, .int 0])), (q_1, .inr (5, [.null, .int 0]))] := hDn
  have hS := hSn
  clear hPn hDn hSn
  refine W.widen (k := 1) (n := 2) (Nat.le_of_ble_eq_true rfl) (Nat.le_of_ble_eq_true rfl) ?_
  refine lv_dup hx hb dX6_init_8 rfl ?_
  refine lv_sipush (v := 480) hx hb dX6_init_9 (by decide) ?_
  have hPc := hP.sub (ws' := [(q_1, .inr (5, [.null, .int 0]))]) [1] rfl
  have hDc := hD.sub (ws' := [(q_1, .inr (5, [.null, .int 0]))]) [1] (by decide +kernel) rfl
  have hFc := va_free (wc := [(q_1, .inr (5, [.null, .int 0]))]) hD hS hA [1] rfl
  refine va_callv (va_runI (As := [.int 480]) (rest := [.ref q_1, .ref o]) ⟨hx, hb, hml, hown, hts⟩ (k_X5_init l dC dI cI cS H.size q_1 480 480 (by decide) (by decide) (by decide)) (cwI 1 hts gX6_init_X5_init rfl rfl rfl (hts (.initialized RX5) (List.mem_of_getElem? (i := 6) rfl)) (hts (.methodLink RX6 11 yX5_init) (List.mem_of_getElem? (i := 23) rfl)) (hts (.instanceMethod yX5_init) (List.mem_of_getElem? (i := 24) rfl)) rfl (by decide +kernel) ⟨Nat.le_of_ble_eq_true rfl, Nat.le_of_ble_eq_true rfl⟩) ⟨fun a U g mk q => by obtain ⟨q0, q1, qP, qK, qD⟩ := q; exact ⟨q0, q1, qP, va_K.moved (u := U) (U := U.calling g mk a) (Vm.Alike.refl U.vm) qK, qD⟩, fun U hU hW => ⟨rfl, by rw [hU], by rw [hU]; exact hPc, va_K.moved hW.alike hK, hDc.weaken (fun _ _ _ _ => trivial)⟩⟩ rfl rfl hl.1 rfl (lv_room (Nat.le_of_ble_eq_true rfl)) dX6_init_12 ⟨Nat.le_of_ble_eq_true rfl, Nat.le_of_ble_eq_true rfl⟩) hS (fun q _ h => hFc q h) hFc (fun u t H1 locs ht hvm hw hB hz1 hk1 hSn => ?_)
  refine Exists.elim hB (fun ar_2 hB2_0 => ?_)
  refine And.elim (fun hP1 hD1 => ?_) hB2_0
  clear hB hB2_0
  rw [ht] at hP1
  obtain ⟨hPn, hDn⟩ := va_join (wr := [(o, .inr (6, [.null, .null, .null, .null, .null, .null, .null, .null, .null, .null, .null, .int 0]))]) (w1 := [(q_1, .inr (5, [.ref ar_2, .int 0])), (ar_2, .inl (cI, 480, .inl (fun _ => 0)))]) hP hD [1] [0] rfl rfl (by decide +kernel) (by decide +kernel) hk1 hFc hP1 hD1
  clear hP hD hS hPc hDc hFc hk1 hz1 hvm ht hP1 hD1
  generalize H1 = H at hPn hSn ⊢
  have hP : va_P (dC, dI) vwCl [(o, .inr (6, [.null, .null, .null, .null, .null, .null, .null, .null, .null, .null, .null, .int 0])), (q_1, .inr (5, [.ref ar_2, .int 0])), (ar_2, .inl (cI, 480, .inl (fun _ => 0)))] H := hPn
  have hD : va_D A [(o, .inr (6, [.null, .null, .null, .null, .null, .null, .null, .null, .null, .null, .null, .int 0])), (q_1, .inr (5, [.ref ar_2, .int 0])), (ar_2, .inl (cI, 480, .inl (fun _ => 0)))] := hDn
  have hS := hSn
  clear hPn hDn hSn
  refine W.widen (k := 2) (n := 482) (Nat.le_of_ble_eq_true rfl) (Nat.le_of_ble_eq_true rfl) ?_
  refine va_putF (D := (dC, dI)) (ci := 6) (v := .ref q_1) (ty := .object "TextMender$Numbers") (C := RX6) (T := TX6) (N := 12) hx hb hts in_X6 tyX6 tyX6_ok nmX6 hown hK hP hD hS 0 rfl rfl 4 (by decide) (hts (.fieldLink RX6 14 "TextMender$Parting" "bytes" "LTextMender$Numbers;") (List.mem_of_getElem? (i := 7) rfl)) (fun _ h9 => h9) rfl hin rfl (tyX6_ok 4 (Nat.le_of_ble_eq_true rfl)) rfl rfl (Nat.le_of_ble_eq_true rfl) dX6_init_15 (fun H locs hPn hDn hSn => ?_)
  clear hP hD hS
  have hP : va_P (dC, dI) vwCl [(o, .inr (6, [.null, .null, .null, .null, .ref q_1, .null, .null, .null, .null, .null, .null, .int 0])), (q_1, .inr (5, [.ref ar_2, .int 0])), (ar_2, .inl (cI, 480, .inl (fun _ => 0)))] H := hPn
  have hD : va_D A [(o, .inr (6, [.null, .null, .null, .null, .ref q_1, .null, .null, .null, .null, .null, .null, .int 0])), (q_1, .inr (5, [.ref ar_2, .int 0])), (ar_2, .inl (cI, 480, .inl (fun _ => 0)))] := hDn
  have hS := hSn
  clear hPn hDn hSn
  refine lv_aload_n hx hb dX6_init_18 rfl (lv_at hl 0 rfl) ?_
  refine va_new (ci := 5) (fs := [.null, .int 0]) (C := RX5) (T := TX5) (N := 2) hx hb hts in_X5 tyX5 tyX5_ok hown (hts (.classLink RX6 9 RX5) (List.mem_of_getElem? (i := 4) rfl)) (hts (.instantiable RX5 2) (List.mem_of_getElem? (i := 5) rfl)) (hts (.initialized RX5) (List.mem_of_getElem? (i := 6) rfl)) hK hP hD hS hA rfl (p_fsX5) (Nat.le_of_ble_eq_true rfl) (Nat.le_of_ble_eq_true rfl) dX6_init_19 (fun q_3 H hPn hDn hSn => ?_)
  clear hP hD hS
  have hP : va_P (dC, dI) vwCl [(o, .inr (6, [.null, .null, .null, .null, .ref q_1, .null, .null, .null, .null, .null, .null, .int 0])), (q_1, .inr (5, [.ref ar_2, .int 0])), (ar_2, .inl (cI, 480, .inl (fun _ => 0))), (q_3, .inr (5, [.null, .int 0]))] H := hPn
  have hD : va_D A [(o, .inr (6, [.null, .null, .null, .null, .ref q_1, .null, .null, .null, .null, .null, .null, .int 0])), (q_1, .inr (5, [.ref ar_2, .int 0])), (ar_2, .inl (cI, 480, .inl (fun _ => 0))), (q_3, .inr (5, [.null, .int 0]))] := hDn
  have hS := hSn
  clear hPn hDn hSn
  refine W.widen (k := 3) (n := 484) (Nat.le_of_ble_eq_true rfl) (Nat.le_of_ble_eq_true rfl) ?_
  refine lv_dup hx hb dX6_init_22 rfl ?_
  refine lv_sipush (v := 300) hx hb dX6_init_23 (by decide) ?_
  have hPc := hP.sub (ws' := [(q_3, .inr (5, [.null, .int 0]))]) [3] rfl
  have hDc := hD.sub (ws' := [(q_3, .inr (5, [.null, .int 0]))]) [3] (by decide +kernel) rfl
  have hFc := va_free (wc := [(q_3, .inr (5, [.null, .int 0]))]) hD hS hA [3] rfl
  refine va_callv (va_runI (As := [.int 300]) (rest := [.ref q_3, .ref o]) ⟨hx, hb, hml, hown, hts⟩ (k_X5_init l dC dI cI cS H.size q_3 300 300 (by decide) (by decide) (by decide)) (cwI 1 hts gX6_init_X5_init rfl rfl rfl (hts (.initialized RX5) (List.mem_of_getElem? (i := 6) rfl)) (hts (.methodLink RX6 11 yX5_init) (List.mem_of_getElem? (i := 23) rfl)) (hts (.instanceMethod yX5_init) (List.mem_of_getElem? (i := 24) rfl)) rfl (by decide +kernel) ⟨Nat.le_of_ble_eq_true rfl, Nat.le_of_ble_eq_true rfl⟩) ⟨fun a U g mk q => by obtain ⟨q0, q1, qP, qK, qD⟩ := q; exact ⟨q0, q1, qP, va_K.moved (u := U) (U := U.calling g mk a) (Vm.Alike.refl U.vm) qK, qD⟩, fun U hU hW => ⟨rfl, by rw [hU], by rw [hU]; exact hPc, va_K.moved hW.alike hK, hDc.weaken (fun _ _ _ _ => trivial)⟩⟩ rfl rfl hl.1 rfl (lv_room (Nat.le_of_ble_eq_true rfl)) dX6_init_26 ⟨Nat.le_of_ble_eq_true rfl, Nat.le_of_ble_eq_true rfl⟩) hS (fun q _ h => hFc q h) hFc (fun u t H1 locs ht hvm hw hB hz1 hk1 hSn => ?_)
  refine Exists.elim hB (fun ar_4 hB4_0 => ?_)
  refine And.elim (fun hP1 hD1 => ?_) hB4_0
  clear hB hB4_0
  rw [ht] at hP1
  obtain ⟨hPn, hDn⟩ := va_join (wr := [(o, .inr (6, [.null, .null, .null, .null, .ref q_1, .null, .null, .null, .null, .null, .null, .int 0])), (q_1, .inr (5, [.ref ar_2, .int 0])), (ar_2, .inl (cI, 480, .inl (fun _ => 0)))]) (w1 := [(q_3, .inr (5, [.ref ar_4, .int 0])), (ar_4, .inl (cI, 300, .inl (fun _ => 0)))]) hP hD [3] [0, 1, 2] rfl rfl (by decide +kernel) (by decide +kernel) hk1 hFc hP1 hD1
  clear hP hD hS hPc hDc hFc hk1 hz1 hvm ht hP1 hD1
  generalize H1 = H at hPn hSn ⊢
  have hP : va_P (dC, dI) vwCl [(o, .inr (6, [.null, .null, .null, .null, .ref q_1, .null, .null, .null, .null, .null, .null, .int 0])), (q_1, .inr (5, [.ref ar_2, .int 0])), (ar_2, .inl (cI, 480, .inl (fun _ => 0))), (q_3, .inr (5, [.ref ar_4, .int 0])), (ar_4, .inl (cI, 300, .inl (fun _ => 0)))] H := hPn
  have hD : va_D A [(o, .inr (6, [.null, .null, .null, .null, .ref q_1, .null, .null, .null, .null, .null, .null, .int 0])), (q_1, .inr (5, [.ref ar_2, .int 0])), (ar_2, .inl (cI, 480, .inl (fun _ => 0))), (q_3, .inr (5, [.ref ar_4, .int 0])), (ar_4, .inl (cI, 300, .inl (fun _ => 0)))] := hDn
  have hS := hSn
  clear hPn hDn hSn
  refine W.widen (k := 4) (n := 784) (Nat.le_of_ble_eq_true rfl) (Nat.le_of_ble_eq_true rfl) ?_
  refine va_putF (D := (dC, dI)) (ci := 6) (v := .ref q_3) (ty := .object "TextMender$Numbers") (C := RX6) (T := TX6) (N := 12) hx hb hts in_X6 tyX6 tyX6_ok nmX6 hown hK hP hD hS 0 rfl rfl 5 (by decide) (hts (.fieldLink RX6 20 "TextMender$Parting" "part" "LTextMender$Numbers;") (List.mem_of_getElem? (i := 8) rfl)) (fun _ h9 => h9) rfl hin rfl (tyX6_ok 5 (Nat.le_of_ble_eq_true rfl)) rfl rfl (Nat.le_of_ble_eq_true rfl) dX6_init_29 (fun H locs hPn hDn hSn => ?_)
  clear hP hD hS
  have hP : va_P (dC, dI) vwCl [(o, .inr (6, [.null, .null, .null, .null, .ref q_1, .ref q_3, .null, .null, .null, .null, .null, .int 0])), (q_1, .inr (5, [.ref ar_2, .int 0])), (ar_2, .inl (cI, 480, .inl (fun _ => 0))), (q_3, .inr (5, [.ref ar_4, .int 0])), (ar_4, .inl (cI, 300, .inl (fun _ => 0)))] H := hPn
  have hD : va_D A [(o, .inr (6, [.null, .null, .null, .null, .ref q_1, .ref q_3, .null, .null, .null, .null, .null, .int 0])), (q_1, .inr (5, [.ref ar_2, .int 0])), (ar_2, .inl (cI, 480, .inl (fun _ => 0))), (q_3, .inr (5, [.ref ar_4, .int 0])), (ar_4, .inl (cI, 300, .inl (fun _ => 0)))] := hDn
  have hS := hSn
  clear hPn hDn hSn
  refine lv_aload_n hx hb dX6_init_32 rfl (lv_at hl 0 rfl) ?_
  refine va_new (ci := 5) (fs := [.null, .int 0]) (C := RX5) (T := TX5) (N := 2) hx hb hts in_X5 tyX5 tyX5_ok hown (hts (.classLink RX6 9 RX5) (List.mem_of_getElem? (i := 4) rfl)) (hts (.instantiable RX5 2) (List.mem_of_getElem? (i := 5) rfl)) (hts (.initialized RX5) (List.mem_of_getElem? (i := 6) rfl)) hK hP hD hS hA rfl (p_fsX5) (Nat.le_of_ble_eq_true rfl) (Nat.le_of_ble_eq_true rfl) dX6_init_33 (fun q_5 H hPn hDn hSn => ?_)
  clear hP hD hS
  have hP : va_P (dC, dI) vwCl [(o, .inr (6, [.null, .null, .null, .null, .ref q_1, .ref q_3, .null, .null, .null, .null, .null, .int 0])), (q_1, .inr (5, [.ref ar_2, .int 0])), (ar_2, .inl (cI, 480, .inl (fun _ => 0))), (q_3, .inr (5, [.ref ar_4, .int 0])), (ar_4, .inl (cI, 300, .inl (fun _ => 0))), (q_5, .inr (5, [.null, .int 0]))] H := hPn
  have hD : va_D A [(o, .inr (6, [.null, .null, .null, .null, .ref q_1, .ref q_3, .null, .null, .null, .null, .null, .int 0])), (q_1, .inr (5, [.ref ar_2, .int 0])), (ar_2, .inl (cI, 480, .inl (fun _ => 0))), (q_3, .inr (5, [.ref ar_4, .int 0])), (ar_4, .inl (cI, 300, .inl (fun _ => 0))), (q_5, .inr (5, [.null, .int 0]))] := hDn
  have hS := hSn
  clear hPn hDn hSn
  refine W.widen (k := 5) (n := 786) (Nat.le_of_ble_eq_true rfl) (Nat.le_of_ble_eq_true rfl) ?_
  refine lv_dup hx hb dX6_init_36 rfl ?_
  refine lv_sipush (v := 300) hx hb dX6_init_37 (by decide) ?_
  have hPc := hP.sub (ws' := [(q_5, .inr (5, [.null, .int 0]))]) [5] rfl
  have hDc := hD.sub (ws' := [(q_5, .inr (5, [.null, .int 0]))]) [5] (by decide +kernel) rfl
  have hFc := va_free (wc := [(q_5, .inr (5, [.null, .int 0]))]) hD hS hA [5] rfl
  refine va_callv (va_runI (As := [.int 300]) (rest := [.ref q_5, .ref o]) ⟨hx, hb, hml, hown, hts⟩ (k_X5_init l dC dI cI cS H.size q_5 300 300 (by decide) (by decide) (by decide)) (cwI 1 hts gX6_init_X5_init rfl rfl rfl (hts (.initialized RX5) (List.mem_of_getElem? (i := 6) rfl)) (hts (.methodLink RX6 11 yX5_init) (List.mem_of_getElem? (i := 23) rfl)) (hts (.instanceMethod yX5_init) (List.mem_of_getElem? (i := 24) rfl)) rfl (by decide +kernel) ⟨Nat.le_of_ble_eq_true rfl, Nat.le_of_ble_eq_true rfl⟩) ⟨fun a U g mk q => by obtain ⟨q0, q1, qP, qK, qD⟩ := q; exact ⟨q0, q1, qP, va_K.moved (u := U) (U := U.calling g mk a) (Vm.Alike.refl U.vm) qK, qD⟩, fun U hU hW => ⟨rfl, by rw [hU], by rw [hU]; exact hPc, va_K.moved hW.alike hK, hDc.weaken (fun _ _ _ _ => trivial)⟩⟩ rfl rfl hl.1 rfl (lv_room (Nat.le_of_ble_eq_true rfl)) dX6_init_40 ⟨Nat.le_of_ble_eq_true rfl, Nat.le_of_ble_eq_true rfl⟩) hS (fun q _ h => hFc q h) hFc (fun u t H1 locs ht hvm hw hB hz1 hk1 hSn => ?_)
  refine Exists.elim hB (fun ar_6 hB6_0 => ?_)
  refine And.elim (fun hP1 hD1 => ?_) hB6_0
  clear hB hB6_0
  rw [ht] at hP1
  obtain ⟨hPn, hDn⟩ := va_join (wr := [(o, .inr (6, [.null, .null, .null, .null, .ref q_1, .ref q_3, .null, .null, .null, .null, .null, .int 0])), (q_1, .inr (5, [.ref ar_2, .int 0])), (ar_2, .inl (cI, 480, .inl (fun _ => 0))), (q_3, .inr (5, [.ref ar_4, .int 0])), (ar_4, .inl (cI, 300, .inl (fun _ => 0)))]) (w1 := [(q_5, .inr (5, [.ref ar_6, .int 0])), (ar_6, .inl (cI, 300, .inl (fun _ => 0)))]) hP hD [5] [0, 1, 2, 3, 4] rfl rfl (by decide +kernel) (by decide +kernel) hk1 hFc hP1 hD1
  clear hP hD hS hPc hDc hFc hk1 hz1 hvm ht hP1 hD1
  generalize H1 = H at hPn hSn ⊢
  have hP : va_P (dC, dI) vwCl [(o, .inr (6, [.null, .null, .null, .null, .ref q_1, .ref q_3, .null, .null, .null, .null, .null, .int 0])), (q_1, .inr (5, [.ref ar_2, .int 0])), (ar_2, .inl (cI, 480, .inl (fun _ => 0))), (q_3, .inr (5, [.ref ar_4, .int 0])), (ar_4, .inl (cI, 300, .inl (fun _ => 0))), (q_5, .inr (5, [.ref ar_6, .int 0])), (ar_6, .inl (cI, 300, .inl (fun _ => 0)))] H := hPn
  have hD : va_D A [(o, .inr (6, [.null, .null, .null, .null, .ref q_1, .ref q_3, .null, .null, .null, .null, .null, .int 0])), (q_1, .inr (5, [.ref ar_2, .int 0])), (ar_2, .inl (cI, 480, .inl (fun _ => 0))), (q_3, .inr (5, [.ref ar_4, .int 0])), (ar_4, .inl (cI, 300, .inl (fun _ => 0))), (q_5, .inr (5, [.ref ar_6, .int 0])), (ar_6, .inl (cI, 300, .inl (fun _ => 0)))] := hDn
  have hS := hSn
  clear hPn hDn hSn
  refine W.widen (k := 6) (n := 1086) (Nat.le_of_ble_eq_true rfl) (Nat.le_of_ble_eq_true rfl) ?_
  refine va_putF (D := (dC, dI)) (ci := 6) (v := .ref q_5) (ty := .object "TextMender$Numbers") (C := RX6) (T := TX6) (N := 12) hx hb hts in_X6 tyX6 tyX6_ok nmX6 hown hK hP hD hS 0 rfl rfl 6 (by decide) (hts (.fieldLink RX6 23 "TextMender$Parting" "undone" "LTextMender$Numbers;") (List.mem_of_getElem? (i := 9) rfl)) (fun _ h9 => h9) rfl hin rfl (tyX6_ok 6 (Nat.le_of_ble_eq_true rfl)) rfl rfl (Nat.le_of_ble_eq_true rfl) dX6_init_43 (fun H locs hPn hDn hSn => ?_)
  clear hP hD hS
  have hP : va_P (dC, dI) vwCl [(o, .inr (6, [.null, .null, .null, .null, .ref q_1, .ref q_3, .ref q_5, .null, .null, .null, .null, .int 0])), (q_1, .inr (5, [.ref ar_2, .int 0])), (ar_2, .inl (cI, 480, .inl (fun _ => 0))), (q_3, .inr (5, [.ref ar_4, .int 0])), (ar_4, .inl (cI, 300, .inl (fun _ => 0))), (q_5, .inr (5, [.ref ar_6, .int 0])), (ar_6, .inl (cI, 300, .inl (fun _ => 0)))] H := hPn
  have hD : va_D A [(o, .inr (6, [.null, .null, .null, .null, .ref q_1, .ref q_3, .ref q_5, .null, .null, .null, .null, .int 0])), (q_1, .inr (5, [.ref ar_2, .int 0])), (ar_2, .inl (cI, 480, .inl (fun _ => 0))), (q_3, .inr (5, [.ref ar_4, .int 0])), (ar_4, .inl (cI, 300, .inl (fun _ => 0))), (q_5, .inr (5, [.ref ar_6, .int 0])), (ar_6, .inl (cI, 300, .inl (fun _ => 0)))] := hDn
  have hS := hSn
  clear hPn hDn hSn
  refine lv_aload_n hx hb dX6_init_46 rfl (lv_at hl 0 rfl) ?_
  refine lv_bipush (v := 61) hx hb dX6_init_47 (by decide) ?_
  refine p_newint hx hb (hts (.arrayClass .int) (List.mem_of_getElem? (i := 10) rfl)) hK hP hD hS hA (n := 61) (N := 61) (by decide) (by decide) (by decide) (Nat.le_of_ble_eq_true rfl) (Nat.le_of_ble_eq_true rfl) dX6_init_49 (fun q_7 H hPn hDn hSn => ?_)
  clear hP hD hS
  have hP : va_P (dC, dI) vwCl [(o, .inr (6, [.null, .null, .null, .null, .ref q_1, .ref q_3, .ref q_5, .null, .null, .null, .null, .int 0])), (q_1, .inr (5, [.ref ar_2, .int 0])), (ar_2, .inl (cI, 480, .inl (fun _ => 0))), (q_3, .inr (5, [.ref ar_4, .int 0])), (ar_4, .inl (cI, 300, .inl (fun _ => 0))), (q_5, .inr (5, [.ref ar_6, .int 0])), (ar_6, .inl (cI, 300, .inl (fun _ => 0))), (q_7, .inl (cI, 61, .inl (fun _ => 0)))] H := hPn
  have hD : va_D A [(o, .inr (6, [.null, .null, .null, .null, .ref q_1, .ref q_3, .ref q_5, .null, .null, .null, .null, .int 0])), (q_1, .inr (5, [.ref ar_2, .int 0])), (ar_2, .inl (cI, 480, .inl (fun _ => 0))), (q_3, .inr (5, [.ref ar_4, .int 0])), (ar_4, .inl (cI, 300, .inl (fun _ => 0))), (q_5, .inr (5, [.ref ar_6, .int 0])), (ar_6, .inl (cI, 300, .inl (fun _ => 0))), (q_7, .inl (cI, 61, .inl (fun _ => 0)))] := hDn
  have hS := hSn
  clear hPn hDn hSn
  refine W.widen (k := 7) (n := 1147) (Nat.le_of_ble_eq_true rfl) (Nat.le_of_ble_eq_true rfl) ?_
  refine va_putF (D := (dC, dI)) (ci := 6) (v := .ref q_7) (ty := .array .int) (C := RX6) (T := TX6) (N := 12) hx hb hts in_X6 tyX6 tyX6_ok nmX6 hown hK hP hD hS 0 rfl rfl 7 (by decide) (hts (.fieldLink RX6 26 "TextMender$Parting" "leastCost" "[I") (List.mem_of_getElem? (i := 11) rfl)) (fun _ h9 => h9) rfl hin rfl (tyX6_ok 7 (Nat.le_of_ble_eq_true rfl)) rfl rfl (Nat.le_of_ble_eq_true rfl) dX6_init_51 (fun H locs hPn hDn hSn => ?_)
  clear hP hD hS
  have hP : va_P (dC, dI) vwCl [(o, .inr (6, [.null, .null, .null, .null, .ref q_1, .ref q_3, .ref q_5, .ref q_7, .null, .null, .null, .int 0])), (q_1, .inr (5, [.ref ar_2, .int 0])), (ar_2, .inl (cI, 480, .inl (fun _ => 0))), (q_3, .inr (5, [.ref ar_4, .int 0])), (ar_4, .inl (cI, 300, .inl (fun _ => 0))), (q_5, .inr (5, [.ref ar_6, .int 0])), (ar_6, .inl (cI, 300, .inl (fun _ => 0))), (q_7, .inl (cI, 61, .inl (fun _ => 0)))] H := hPn
  have hD : va_D A [(o, .inr (6, [.null, .null, .null, .null, .ref q_1, .ref q_3, .ref q_5, .ref q_7, .null, .null, .null, .int 0])), (q_1, .inr (5, [.ref ar_2, .int 0])), (ar_2, .inl (cI, 480, .inl (fun _ => 0))), (q_3, .inr (5, [.ref ar_4, .int 0])), (ar_4, .inl (cI, 300, .inl (fun _ => 0))), (q_5, .inr (5, [.ref ar_6, .int 0])), (ar_6, .inl (cI, 300, .inl (fun _ => 0))), (q_7, .inl (cI, 61, .inl (fun _ => 0)))] := hDn
  have hS := hSn
  clear hPn hDn hSn
  refine lv_aload_n hx hb dX6_init_54 rfl (lv_at hl 0 rfl) ?_
  refine lv_bipush (v := 61) hx hb dX6_init_55 (by decide) ?_
  refine p_newint hx hb (hts (.arrayClass .int) (List.mem_of_getElem? (i := 10) rfl)) hK hP hD hS hA (n := 61) (N := 61) (by decide) (by decide) (by decide) (Nat.le_of_ble_eq_true rfl) (Nat.le_of_ble_eq_true rfl) dX6_init_57 (fun q_8 H hPn hDn hSn => ?_)
  clear hP hD hS
  have hP : va_P (dC, dI) vwCl [(o, .inr (6, [.null, .null, .null, .null, .ref q_1, .ref q_3, .ref q_5, .ref q_7, .null, .null, .null, .int 0])), (q_1, .inr (5, [.ref ar_2, .int 0])), (ar_2, .inl (cI, 480, .inl (fun _ => 0))), (q_3, .inr (5, [.ref ar_4, .int 0])), (ar_4, .inl (cI, 300, .inl (fun _ => 0))), (q_5, .inr (5, [.ref ar_6, .int 0])), (ar_6, .inl (cI, 300, .inl (fun _ => 0))), (q_7, .inl (cI, 61, .inl (fun _ => 0))), (q_8, .inl (cI, 61, .inl (fun _ => 0)))] H := hPn
  have hD : va_D A [(o, .inr (6, [.null, .null, .null, .null, .ref q_1, .ref q_3, .ref q_5, .ref q_7, .null, .null, .null, .int 0])), (q_1, .inr (5, [.ref ar_2, .int 0])), (ar_2, .inl (cI, 480, .inl (fun _ => 0))), (q_3, .inr (5, [.ref ar_4, .int 0])), (ar_4, .inl (cI, 300, .inl (fun _ => 0))), (q_5, .inr (5, [.ref ar_6, .int 0])), (ar_6, .inl (cI, 300, .inl (fun _ => 0))), (q_7, .inl (cI, 61, .inl (fun _ => 0))), (q_8, .inl (cI, 61, .inl (fun _ => 0)))] := hDn
  have hS := hSn
  clear hPn hDn hSn
  refine W.widen (k := 8) (n := 1208) (Nat.le_of_ble_eq_true rfl) (Nat.le_of_ble_eq_true rfl) ?_
  refine va_putF (D := (dC, dI)) (ci := 6) (v := .ref q_8) (ty := .array .int) (C := RX6) (T := TX6) (N := 12) hx hb hts in_X6 tyX6 tyX6_ok nmX6 hown hK hP hD hS 0 rfl rfl 8 (by decide) (hts (.fieldLink RX6 30 "TextMender$Parting" "spansFrom" "[I") (List.mem_of_getElem? (i := 12) rfl)) (fun _ h9 => h9) rfl hin rfl (tyX6_ok 8 (Nat.le_of_ble_eq_true rfl)) rfl rfl (Nat.le_of_ble_eq_true rfl) dX6_init_59 (fun H locs hPn hDn hSn => ?_)
  clear hP hD hS
  have hP : va_P (dC, dI) vwCl [(o, .inr (6, [.null, .null, .null, .null, .ref q_1, .ref q_3, .ref q_5, .ref q_7, .ref q_8, .null, .null, .int 0])), (q_1, .inr (5, [.ref ar_2, .int 0])), (ar_2, .inl (cI, 480, .inl (fun _ => 0))), (q_3, .inr (5, [.ref ar_4, .int 0])), (ar_4, .inl (cI, 300, .inl (fun _ => 0))), (q_5, .inr (5, [.ref ar_6, .int 0])), (ar_6, .inl (cI, 300, .inl (fun _ => 0))), (q_7, .inl (cI, 61, .inl (fun _ => 0))), (q_8, .inl (cI, 61, .inl (fun _ => 0)))] H := hPn
  have hD : va_D A [(o, .inr (6, [.null, .null, .null, .null, .ref q_1, .ref q_3, .ref q_5, .ref q_7, .ref q_8, .null, .null, .int 0])), (q_1, .inr (5, [.ref ar_2, .int 0])), (ar_2, .inl (cI, 480, .inl (fun _ => 0))), (q_3, .inr (5, [.ref ar_4, .int 0])), (ar_4, .inl (cI, 300, .inl (fun _ => 0))), (q_5, .inr (5, [.ref ar_6, .int 0])), (ar_6, .inl (cI, 300, .inl (fun _ => 0))), (q_7, .inl (cI, 61, .inl (fun _ => 0))), (q_8, .inl (cI, 61, .inl (fun _ => 0)))] := hDn
  have hS := hSn
  clear hPn hDn hSn
  refine lv_aload_n hx hb dX6_init_62 rfl (lv_at hl 0 rfl) ?_
  refine lv_bipush (v := 61) hx hb dX6_init_63 (by decide) ?_
  refine p_newint hx hb (hts (.arrayClass .int) (List.mem_of_getElem? (i := 10) rfl)) hK hP hD hS hA (n := 61) (N := 61) (by decide) (by decide) (by decide) (Nat.le_of_ble_eq_true rfl) (Nat.le_of_ble_eq_true rfl) dX6_init_65 (fun q_9 H hPn hDn hSn => ?_)
  clear hP hD hS
  have hP : va_P (dC, dI) vwCl [(o, .inr (6, [.null, .null, .null, .null, .ref q_1, .ref q_3, .ref q_5, .ref q_7, .ref q_8, .null, .null, .int 0])), (q_1, .inr (5, [.ref ar_2, .int 0])), (ar_2, .inl (cI, 480, .inl (fun _ => 0))), (q_3, .inr (5, [.ref ar_4, .int 0])), (ar_4, .inl (cI, 300, .inl (fun _ => 0))), (q_5, .inr (5, [.ref ar_6, .int 0])), (ar_6, .inl (cI, 300, .inl (fun _ => 0))), (q_7, .inl (cI, 61, .inl (fun _ => 0))), (q_8, .inl (cI, 61, .inl (fun _ => 0))), (q_9, .inl (cI, 61, .inl (fun _ => 0)))] H := hPn
  have hD : va_D A [(o, .inr (6, [.null, .null, .null, .null, .ref q_1, .ref q_3, .ref q_5, .ref q_7, .ref q_8, .null, .null, .int 0])), (q_1, .inr (5, [.ref ar_2, .int 0])), (ar_2, .inl (cI, 480, .inl (fun _ => 0))), (q_3, .inr (5, [.ref ar_4, .int 0])), (ar_4, .inl (cI, 300, .inl (fun _ => 0))), (q_5, .inr (5, [.ref ar_6, .int 0])), (ar_6, .inl (cI, 300, .inl (fun _ => 0))), (q_7, .inl (cI, 61, .inl (fun _ => 0))), (q_8, .inl (cI, 61, .inl (fun _ => 0))), (q_9, .inl (cI, 61, .inl (fun _ => 0)))] := hDn
  have hS := hSn
  clear hPn hDn hSn
  refine W.widen (k := 9) (n := 1269) (Nat.le_of_ble_eq_true rfl) (Nat.le_of_ble_eq_true rfl) ?_
  refine va_putF (D := (dC, dI)) (ci := 6) (v := .ref q_9) (ty := .array .int) (C := RX6) (T := TX6) (N := 12) hx hb hts in_X6 tyX6 tyX6_ok nmX6 hown hK hP hD hS 0 rfl rfl 9 (by decide) (hts (.fieldLink RX6 33 "TextMender$Parting" "endOf" "[I") (List.mem_of_getElem? (i := 13) rfl)) (fun _ h9 => h9) rfl hin rfl (tyX6_ok 9 (Nat.le_of_ble_eq_true rfl)) rfl rfl (Nat.le_of_ble_eq_true rfl) dX6_init_67 (fun H locs hPn hDn hSn => ?_)
  clear hP hD hS
  have hP : va_P (dC, dI) vwCl [(o, .inr (6, [.null, .null, .null, .null, .ref q_1, .ref q_3, .ref q_5, .ref q_7, .ref q_8, .ref q_9, .null, .int 0])), (q_1, .inr (5, [.ref ar_2, .int 0])), (ar_2, .inl (cI, 480, .inl (fun _ => 0))), (q_3, .inr (5, [.ref ar_4, .int 0])), (ar_4, .inl (cI, 300, .inl (fun _ => 0))), (q_5, .inr (5, [.ref ar_6, .int 0])), (ar_6, .inl (cI, 300, .inl (fun _ => 0))), (q_7, .inl (cI, 61, .inl (fun _ => 0))), (q_8, .inl (cI, 61, .inl (fun _ => 0))), (q_9, .inl (cI, 61, .inl (fun _ => 0)))] H := hPn
  have hD : va_D A [(o, .inr (6, [.null, .null, .null, .null, .ref q_1, .ref q_3, .ref q_5, .ref q_7, .ref q_8, .ref q_9, .null, .int 0])), (q_1, .inr (5, [.ref ar_2, .int 0])), (ar_2, .inl (cI, 480, .inl (fun _ => 0))), (q_3, .inr (5, [.ref ar_4, .int 0])), (ar_4, .inl (cI, 300, .inl (fun _ => 0))), (q_5, .inr (5, [.ref ar_6, .int 0])), (ar_6, .inl (cI, 300, .inl (fun _ => 0))), (q_7, .inl (cI, 61, .inl (fun _ => 0))), (q_8, .inl (cI, 61, .inl (fun _ => 0))), (q_9, .inl (cI, 61, .inl (fun _ => 0)))] := hDn
  have hS := hSn
  clear hPn hDn hSn
  refine lv_aload_n hx hb dX6_init_70 rfl (lv_at hl 0 rfl) ?_
  refine lv_bipush (v := 61) hx hb dX6_init_71 (by decide) ?_
  refine p_newint hx hb (hts (.arrayClass .int) (List.mem_of_getElem? (i := 10) rfl)) hK hP hD hS hA (n := 61) (N := 61) (by decide) (by decide) (by decide) (Nat.le_of_ble_eq_true rfl) (Nat.le_of_ble_eq_true rfl) dX6_init_73 (fun q_10 H hPn hDn hSn => ?_)
  clear hP hD hS
  have hP : va_P (dC, dI) vwCl [(o, .inr (6, [.null, .null, .null, .null, .ref q_1, .ref q_3, .ref q_5, .ref q_7, .ref q_8, .ref q_9, .null, .int 0])), (q_1, .inr (5, [.ref ar_2, .int 0])), (ar_2, .inl (cI, 480, .inl (fun _ => 0))), (q_3, .inr (5, [.ref ar_4, .int 0])), (ar_4, .inl (cI, 300, .inl (fun _ => 0))), (q_5, .inr (5, [.ref ar_6, .int 0])), (ar_6, .inl (cI, 300, .inl (fun _ => 0))), (q_7, .inl (cI, 61, .inl (fun _ => 0))), (q_8, .inl (cI, 61, .inl (fun _ => 0))), (q_9, .inl (cI, 61, .inl (fun _ => 0))), (q_10, .inl (cI, 61, .inl (fun _ => 0)))] H := hPn
  have hD : va_D A [(o, .inr (6, [.null, .null, .null, .null, .ref q_1, .ref q_3, .ref q_5, .ref q_7, .ref q_8, .ref q_9, .null, .int 0])), (q_1, .inr (5, [.ref ar_2, .int 0])), (ar_2, .inl (cI, 480, .inl (fun _ => 0))), (q_3, .inr (5, [.ref ar_4, .int 0])), (ar_4, .inl (cI, 300, .inl (fun _ => 0))), (q_5, .inr (5, [.ref ar_6, .int 0])), (ar_6, .inl (cI, 300, .inl (fun _ => 0))), (q_7, .inl (cI, 61, .inl (fun _ => 0))), (q_8, .inl (cI, 61, .inl (fun _ => 0))), (q_9, .inl (cI, 61, .inl (fun _ => 0))), (q_10, .inl (cI, 61, .inl (fun _ => 0)))] := hDn
  have hS := hSn
  clear hPn hDn hSn
  refine W.widen (k := 10) (n := 1330) (Nat.le_of_ble_eq_true rfl) (Nat.le_of_ble_eq_true rfl) ?_
  refine va_putF (D := (dC, dI)) (ci := 6) (v := .ref q_10) (ty := .array .int) (C := RX6) (T := TX6) (N := 12) hx hb hts in_X6 tyX6 tyX6_ok nmX6 hown hK hP hD hS 0 rfl rfl 10 (by decide) (hts (.fieldLink RX6 36 "TextMender$Parting" "harmOf" "[I") (List.mem_of_getElem? (i := 14) rfl)) (fun _ h9 => h9) rfl hin rfl (tyX6_ok 10 (Nat.le_of_ble_eq_true rfl)) rfl rfl (Nat.le_of_ble_eq_true rfl) dX6_init_75 (fun H locs hPn hDn hSn => ?_)
  clear hP hD hS
  have hP : va_P (dC, dI) vwCl [(o, .inr (6, [.null, .null, .null, .null, .ref q_1, .ref q_3, .ref q_5, .ref q_7, .ref q_8, .ref q_9, .ref q_10, .int 0])), (q_1, .inr (5, [.ref ar_2, .int 0])), (ar_2, .inl (cI, 480, .inl (fun _ => 0))), (q_3, .inr (5, [.ref ar_4, .int 0])), (ar_4, .inl (cI, 300, .inl (fun _ => 0))), (q_5, .inr (5, [.ref ar_6, .int 0])), (ar_6, .inl (cI, 300, .inl (fun _ => 0))), (q_7, .inl (cI, 61, .inl (fun _ => 0))), (q_8, .inl (cI, 61, .inl (fun _ => 0))), (q_9, .inl (cI, 61, .inl (fun _ => 0))), (q_10, .inl (cI, 61, .inl (fun _ => 0)))] H := hPn
  have hD : va_D A [(o, .inr (6, [.null, .null, .null, .null, .ref q_1, .ref q_3, .ref q_5, .ref q_7, .ref q_8, .ref q_9, .ref q_10, .int 0])), (q_1, .inr (5, [.ref ar_2, .int 0])), (ar_2, .inl (cI, 480, .inl (fun _ => 0))), (q_3, .inr (5, [.ref ar_4, .int 0])), (ar_4, .inl (cI, 300, .inl (fun _ => 0))), (q_5, .inr (5, [.ref ar_6, .int 0])), (ar_6, .inl (cI, 300, .inl (fun _ => 0))), (q_7, .inl (cI, 61, .inl (fun _ => 0))), (q_8, .inl (cI, 61, .inl (fun _ => 0))), (q_9, .inl (cI, 61, .inl (fun _ => 0))), (q_10, .inl (cI, 61, .inl (fun _ => 0)))] := hDn
  have hS := hSn
  clear hPn hDn hSn
  refine lv_aload_n hx hb dX6_init_78 rfl (lv_at hl 0 rfl) ?_
  refine lv_aload_n hx hb dX6_init_79 rfl (lv_at hl 1 rfl) ?_
  refine va_putF (D := (dC, dI)) (ci := 6) (v := .ref oC) (ty := .object "TextMender$Codes") (C := RX6) (T := TX6) (N := 12) hx hb hts in_X6 tyX6 tyX6_ok nmX6 hown hK hP hD hS 0 rfl rfl 0 (by decide) (hts (.fieldLink RX6 39 "TextMender$Parting" "codes" "LTextMender$Codes;") (List.mem_of_getElem? (i := 15) rfl)) (fun _ h9 => h9) rfl hin rfl (tyX6_ok 0 (Nat.le_of_ble_eq_true rfl)) rfl rfl (Nat.le_of_ble_eq_true rfl) dX6_init_80 (fun H locs hPn hDn hSn => ?_)
  clear hP hD hS
  have hP : va_P (dC, dI) vwCl [(o, .inr (6, [.ref oC, .null, .null, .null, .ref q_1, .ref q_3, .ref q_5, .ref q_7, .ref q_8, .ref q_9, .ref q_10, .int 0])), (q_1, .inr (5, [.ref ar_2, .int 0])), (ar_2, .inl (cI, 480, .inl (fun _ => 0))), (q_3, .inr (5, [.ref ar_4, .int 0])), (ar_4, .inl (cI, 300, .inl (fun _ => 0))), (q_5, .inr (5, [.ref ar_6, .int 0])), (ar_6, .inl (cI, 300, .inl (fun _ => 0))), (q_7, .inl (cI, 61, .inl (fun _ => 0))), (q_8, .inl (cI, 61, .inl (fun _ => 0))), (q_9, .inl (cI, 61, .inl (fun _ => 0))), (q_10, .inl (cI, 61, .inl (fun _ => 0)))] H := hPn
  have hD : va_D A [(o, .inr (6, [.ref oC, .null, .null, .null, .ref q_1, .ref q_3, .ref q_5, .ref q_7, .ref q_8, .ref q_9, .ref q_10, .int 0])), (q_1, .inr (5, [.ref ar_2, .int 0])), (ar_2, .inl (cI, 480, .inl (fun _ => 0))), (q_3, .inr (5, [.ref ar_4, .int 0])), (ar_4, .inl (cI, 300, .inl (fun _ => 0))), (q_5, .inr (5, [.ref ar_6, .int 0])), (ar_6, .inl (cI, 300, .inl (fun _ => 0))), (q_7, .inl (cI, 61, .inl (fun _ => 0))), (q_8, .inl (cI, 61, .inl (fun _ => 0))), (q_9, .inl (cI, 61, .inl (fun _ => 0))), (q_10, .inl (cI, 61, .inl (fun _ => 0)))] := hDn
  have hS := hSn
  clear hPn hDn hSn
  refine lv_aload_n hx hb dX6_init_83 rfl (lv_at hl 0 rfl) ?_
  refine lv_aload_n hx hb dX6_init_84 rfl (lv_at hl 2 rfl) ?_
  refine va_putF (D := (dC, dI)) (ci := 6) (v := .ref oH) (ty := .object "TextMender$Harms") (C := RX6) (T := TX6) (N := 12) hx hb hts in_X6 tyX6 tyX6_ok nmX6 hown hK hP hD hS 0 rfl rfl 1 (by decide) (hts (.fieldLink RX6 43 "TextMender$Parting" "harms" "LTextMender$Harms;") (List.mem_of_getElem? (i := 16) rfl)) (fun _ h9 => h9) rfl hin rfl (tyX6_ok 1 (Nat.le_of_ble_eq_true rfl)) rfl rfl (Nat.le_of_ble_eq_true rfl) dX6_init_85 (fun H locs hPn hDn hSn => ?_)
  clear hP hD hS
  have hP : va_P (dC, dI) vwCl [(o, .inr (6, [.ref oC, .ref oH, .null, .null, .ref q_1, .ref q_3, .ref q_5, .ref q_7, .ref q_8, .ref q_9, .ref q_10, .int 0])), (q_1, .inr (5, [.ref ar_2, .int 0])), (ar_2, .inl (cI, 480, .inl (fun _ => 0))), (q_3, .inr (5, [.ref ar_4, .int 0])), (ar_4, .inl (cI, 300, .inl (fun _ => 0))), (q_5, .inr (5, [.ref ar_6, .int 0])), (ar_6, .inl (cI, 300, .inl (fun _ => 0))), (q_7, .inl (cI, 61, .inl (fun _ => 0))), (q_8, .inl (cI, 61, .inl (fun _ => 0))), (q_9, .inl (cI, 61, .inl (fun _ => 0))), (q_10, .inl (cI, 61, .inl (fun _ => 0)))] H := hPn
  have hD : va_D A [(o, .inr (6, [.ref oC, .ref oH, .null, .null, .ref q_1, .ref q_3, .ref q_5, .ref q_7, .ref q_8, .ref q_9, .ref q_10, .int 0])), (q_1, .inr (5, [.ref ar_2, .int 0])), (ar_2, .inl (cI, 480, .inl (fun _ => 0))), (q_3, .inr (5, [.ref ar_4, .int 0])), (ar_4, .inl (cI, 300, .inl (fun _ => 0))), (q_5, .inr (5, [.ref ar_6, .int 0])), (ar_6, .inl (cI, 300, .inl (fun _ => 0))), (q_7, .inl (cI, 61, .inl (fun _ => 0))), (q_8, .inl (cI, 61, .inl (fun _ => 0))), (q_9, .inl (cI, 61, .inl (fun _ => 0))), (q_10, .inl (cI, 61, .inl (fun _ => 0)))] := hDn
  have hS := hSn
  clear hPn hDn hSn
  refine lv_aload_n hx hb dX6_init_88 rfl (lv_at hl 0 rfl) ?_
  refine lv_aload_n hx hb dX6_init_89 rfl (lv_at hl 3 rfl) ?_
  refine va_putF (D := (dC, dI)) (ci := 6) (v := .ref oK) (ty := .object "TextMender$Costs") (C := RX6) (T := TX6) (N := 12) hx hb hts in_X6 tyX6 tyX6_ok nmX6 hown hK hP hD hS 0 rfl rfl 2 (by decide) (hts (.fieldLink RX6 47 "TextMender$Parting" "costs" "LTextMender$Costs;") (List.mem_of_getElem? (i := 17) rfl)) (fun _ h9 => h9) rfl hin rfl (tyX6_ok 2 (Nat.le_of_ble_eq_true rfl)) rfl rfl (Nat.le_of_ble_eq_true rfl) dX6_init_90 (fun H locs hPn hDn hSn => ?_)
  clear hP hD hS
  have hP : va_P (dC, dI) vwCl [(o, .inr (6, [.ref oC, .ref oH, .ref oK, .null, .ref q_1, .ref q_3, .ref q_5, .ref q_7, .ref q_8, .ref q_9, .ref q_10, .int 0])), (q_1, .inr (5, [.ref ar_2, .int 0])), (ar_2, .inl (cI, 480, .inl (fun _ => 0))), (q_3, .inr (5, [.ref ar_4, .int 0])), (ar_4, .inl (cI, 300, .inl (fun _ => 0))), (q_5, .inr (5, [.ref ar_6, .int 0])), (ar_6, .inl (cI, 300, .inl (fun _ => 0))), (q_7, .inl (cI, 61, .inl (fun _ => 0))), (q_8, .inl (cI, 61, .inl (fun _ => 0))), (q_9, .inl (cI, 61, .inl (fun _ => 0))), (q_10, .inl (cI, 61, .inl (fun _ => 0)))] H := hPn
  have hD : va_D A [(o, .inr (6, [.ref oC, .ref oH, .ref oK, .null, .ref q_1, .ref q_3, .ref q_5, .ref q_7, .ref q_8, .ref q_9, .ref q_10, .int 0])), (q_1, .inr (5, [.ref ar_2, .int 0])), (ar_2, .inl (cI, 480, .inl (fun _ => 0))), (q_3, .inr (5, [.ref ar_4, .int 0])), (ar_4, .inl (cI, 300, .inl (fun _ => 0))), (q_5, .inr (5, [.ref ar_6, .int 0])), (ar_6, .inl (cI, 300, .inl (fun _ => 0))), (q_7, .inl (cI, 61, .inl (fun _ => 0))), (q_8, .inl (cI, 61, .inl (fun _ => 0))), (q_9, .inl (cI, 61, .inl (fun _ => 0))), (q_10, .inl (cI, 61, .inl (fun _ => 0)))] := hDn
  have hS := hSn
  clear hPn hDn hSn
  refine lv_aload_n hx hb dX6_init_93 rfl (lv_at hl 0 rfl) ?_
  refine va_new (ci := 8) (fs := [.null, .null, .int 0, .int 0, .int 0, .int 0]) (C := RX8) (T := TX8) (N := 6) hx hb hts in_X8 tyX8 tyX8_ok hown (hts (.classLink RX6 51 RX8) (List.mem_of_getElem? (i := 18) rfl)) (hts (.instantiable RX8 6) (List.mem_of_getElem? (i := 19) rfl)) (hts (.initialized RX8) (List.mem_of_getElem? (i := 20) rfl)) hK hP hD hS hA rfl (p_fsX8) (Nat.le_of_ble_eq_true rfl) (Nat.le_of_ble_eq_true rfl) dX6_init_94 (fun q_11 H hPn hDn hSn => ?_)
  clear hP hD hS
  have hP : va_P (dC, dI) vwCl [(o, .inr (6, [.ref oC, .ref oH, .ref oK, .null, .ref q_1, .ref q_3, .ref q_5, .ref q_7, .ref q_8, .ref q_9, .ref q_10, .int 0])), (q_1, .inr (5, [.ref ar_2, .int 0])), (ar_2, .inl (cI, 480, .inl (fun _ => 0))), (q_3, .inr (5, [.ref ar_4, .int 0])), (ar_4, .inl (cI, 300, .inl (fun _ => 0))), (q_5, .inr (5, [.ref ar_6, .int 0])), (ar_6, .inl (cI, 300, .inl (fun _ => 0))), (q_7, .inl (cI, 61, .inl (fun _ => 0))), (q_8, .inl (cI, 61, .inl (fun _ => 0))), (q_9, .inl (cI, 61, .inl (fun _ => 0))), (q_10, .inl (cI, 61, .inl (fun _ => 0))), (q_11, .inr (8, [.null, .null, .int 0, .int 0, .int 0, .int 0]))] H := hPn
  have hD : va_D A [(o, .inr (6, [.ref oC, .ref oH, .ref oK, .null, .ref q_1, .ref q_3, .ref q_5, .ref q_7, .ref q_8, .ref q_9, .ref q_10, .int 0])), (q_1, .inr (5, [.ref ar_2, .int 0])), (ar_2, .inl (cI, 480, .inl (fun _ => 0))), (q_3, .inr (5, [.ref ar_4, .int 0])), (ar_4, .inl (cI, 300, .inl (fun _ => 0))), (q_5, .inr (5, [.ref ar_6, .int 0])), (ar_6, .inl (cI, 300, .inl (fun _ => 0))), (q_7, .inl (cI, 61, .inl (fun _ => 0))), (q_8, .inl (cI, 61, .inl (fun _ => 0))), (q_9, .inl (cI, 61, .inl (fun _ => 0))), (q_10, .inl (cI, 61, .inl (fun _ => 0))), (q_11, .inr (8, [.null, .null, .int 0, .int 0, .int 0, .int 0]))] := hDn
  have hS := hSn
  clear hPn hDn hSn
  refine W.widen (k := 11) (n := 1336) (Nat.le_of_ble_eq_true rfl) (Nat.le_of_ble_eq_true rfl) ?_
  refine lv_dup hx hb dX6_init_97 rfl ?_
  refine lv_aload_n hx hb dX6_init_98 rfl (lv_at hl 1 rfl) ?_
  refine lv_aload_n hx hb dX6_init_99 rfl (lv_at hl 3 rfl) ?_
  have hPc := hP.sub (ws' := [(q_11, .inr (8, [.null, .null, .int 0, .int 0, .int 0, .int 0]))]) [11] rfl
  have hDc := hD.sub (ws' := [(q_11, .inr (8, [.null, .null, .int 0, .int 0, .int 0, .int 0]))]) [11] (by decide +kernel) rfl
  have hFc := va_free (wc := [(q_11, .inr (8, [.null, .null, .int 0, .int 0, .int 0, .int 0]))]) hD hS hA [11] rfl
  refine va_callv (va_runI (As := [.ref oC, .ref oK]) (rest := [.ref q_11, .ref o]) ⟨hx, hb, hml, hown, hts⟩ (k_X8_init l dC dI cI cS H.size q_11 oC oK ) (cwI 2 hts gX6_init_X8_init rfl rfl rfl (hts (.initialized RX8) (List.mem_of_getElem? (i := 20) rfl)) (hts (.methodLink RX6 53 yX8_init) (List.mem_of_getElem? (i := 25) rfl)) (hts (.instanceMethod yX8_init) (List.mem_of_getElem? (i := 26) rfl)) rfl (by decide +kernel) ⟨Nat.le_of_ble_eq_true rfl, Nat.le_of_ble_eq_true rfl⟩) ⟨fun a U g mk q => by obtain ⟨q0, q1, qP, qK, qD⟩ := q; exact ⟨q0, q1, qP, va_K.moved (u := U) (U := U.calling g mk a) (Vm.Alike.refl U.vm) qK, qD⟩, fun U hU hW => ⟨rfl, by rw [hU], by rw [hU]; exact hPc, va_K.moved hW.alike hK, hDc.weaken (fun _ _ _ _ => trivial)⟩⟩ rfl rfl hl.1 rfl (lv_room (Nat.le_of_ble_eq_true rfl)) dX6_init_100 ⟨Nat.le_of_ble_eq_true rfl, Nat.le_of_ble_eq_true rfl⟩) hS (fun q _ h => hFc q h) hFc (fun u t H1 locs ht hvm hw hB hz1 hk1 hSn => ?_)
  refine And.elim (fun hP1 hD1 => ?_) hB
  clear hB
  rw [ht] at hP1
  obtain ⟨hPn, hDn⟩ := va_join (wr := [(o, .inr (6, [.ref oC, .ref oH, .ref oK, .null, .ref q_1, .ref q_3, .ref q_5, .ref q_7, .ref q_8, .ref q_9, .ref q_10, .int 0])), (q_1, .inr (5, [.ref ar_2, .int 0])), (ar_2, .inl (cI, 480, .inl (fun _ => 0))), (q_3, .inr (5, [.ref ar_4, .int 0])), (ar_4, .inl (cI, 300, .inl (fun _ => 0))), (q_5, .inr (5, [.ref ar_6, .int 0])), (ar_6, .inl (cI, 300, .inl (fun _ => 0))), (q_7, .inl (cI, 61, .inl (fun _ => 0))), (q_8, .inl (cI, 61, .inl (fun _ => 0))), (q_9, .inl (cI, 61, .inl (fun _ => 0))), (q_10, .inl (cI, 61, .inl (fun _ => 0)))]) (w1 := [(q_11, .inr (8, [.ref oC, .ref oK, .int 0, .int 32, .int 0, .int 0]))]) hP hD [11] [0, 1, 2, 3, 4, 5, 6, 7, 8, 9, 10] rfl rfl (by decide +kernel) (by decide +kernel) hk1 hFc hP1 hD1
  clear hP hD hS hPc hDc hFc hk1 hz1 hvm ht hP1 hD1
  generalize H1 = H at hPn hSn ⊢
  have hP : va_P (dC, dI) vwCl [(o, .inr (6, [.ref oC, .ref oH, .ref oK, .null, .ref q_1, .ref q_3, .ref q_5, .ref q_7, .ref q_8, .ref q_9, .ref q_10, .int 0])), (q_1, .inr (5, [.ref ar_2, .int 0])), (ar_2, .inl (cI, 480, .inl (fun _ => 0))), (q_3, .inr (5, [.ref ar_4, .int 0])), (ar_4, .inl (cI, 300, .inl (fun _ => 0))), (q_5, .inr (5, [.ref ar_6, .int 0])), (ar_6, .inl (cI, 300, .inl (fun _ => 0))), (q_7, .inl (cI, 61, .inl (fun _ => 0))), (q_8, .inl (cI, 61, .inl (fun _ => 0))), (q_9, .inl (cI, 61, .inl (fun _ => 0))), (q_10, .inl (cI, 61, .inl (fun _ => 0))), (q_11, .inr (8, [.ref oC, .ref oK, .int 0, .int 32, .int 0, .int 0]))] H := hPn
  have hD : va_D A [(o, .inr (6, [.ref oC, .ref oH, .ref oK, .null, .ref q_1, .ref q_3, .ref q_5, .ref q_7, .ref q_8, .ref q_9, .ref q_10, .int 0])), (q_1, .inr (5, [.ref ar_2, .int 0])), (ar_2, .inl (cI, 480, .inl (fun _ => 0))), (q_3, .inr (5, [.ref ar_4, .int 0])), (ar_4, .inl (cI, 300, .inl (fun _ => 0))), (q_5, .inr (5, [.ref ar_6, .int 0])), (ar_6, .inl (cI, 300, .inl (fun _ => 0))), (q_7, .inl (cI, 61, .inl (fun _ => 0))), (q_8, .inl (cI, 61, .inl (fun _ => 0))), (q_9, .inl (cI, 61, .inl (fun _ => 0))), (q_10, .inl (cI, 61, .inl (fun _ => 0))), (q_11, .inr (8, [.ref oC, .ref oK, .int 0, .int 32, .int 0, .int 0]))] := hDn
  have hS := hSn
  clear hPn hDn hSn
  refine va_putF (D := (dC, dI)) (ci := 6) (v := .ref q_11) (ty := .object "TextMender$Reading") (C := RX6) (T := TX6) (N := 12) hx hb hts in_X6 tyX6 tyX6_ok nmX6 hown hK hP hD hS 0 rfl rfl 3 (by decide) (hts (.fieldLink RX6 56 "TextMender$Parting" "reading" "LTextMender$Reading;") (List.mem_of_getElem? (i := 21) rfl)) (fun _ h9 => h9) rfl hin rfl (tyX6_ok 3 (Nat.le_of_ble_eq_true rfl)) rfl rfl (Nat.le_of_ble_eq_true rfl) dX6_init_103 (fun H locs hPn hDn hSn => ?_)
  clear hP hD hS
  have hP : va_P (dC, dI) vwCl [(o, .inr (6, [.ref oC, .ref oH, .ref oK, .ref q_11, .ref q_1, .ref q_3, .ref q_5, .ref q_7, .ref q_8, .ref q_9, .ref q_10, .int 0])), (q_1, .inr (5, [.ref ar_2, .int 0])), (ar_2, .inl (cI, 480, .inl (fun _ => 0))), (q_3, .inr (5, [.ref ar_4, .int 0])), (ar_4, .inl (cI, 300, .inl (fun _ => 0))), (q_5, .inr (5, [.ref ar_6, .int 0])), (ar_6, .inl (cI, 300, .inl (fun _ => 0))), (q_7, .inl (cI, 61, .inl (fun _ => 0))), (q_8, .inl (cI, 61, .inl (fun _ => 0))), (q_9, .inl (cI, 61, .inl (fun _ => 0))), (q_10, .inl (cI, 61, .inl (fun _ => 0))), (q_11, .inr (8, [.ref oC, .ref oK, .int 0, .int 32, .int 0, .int 0]))] H := hPn
  have hD : va_D A [(o, .inr (6, [.ref oC, .ref oH, .ref oK, .ref q_11, .ref q_1, .ref q_3, .ref q_5, .ref q_7, .ref q_8, .ref q_9, .ref q_10, .int 0])), (q_1, .inr (5, [.ref ar_2, .int 0])), (ar_2, .inl (cI, 480, .inl (fun _ => 0))), (q_3, .inr (5, [.ref ar_4, .int 0])), (ar_4, .inl (cI, 300, .inl (fun _ => 0))), (q_5, .inr (5, [.ref ar_6, .int 0])), (ar_6, .inl (cI, 300, .inl (fun _ => 0))), (q_7, .inl (cI, 61, .inl (fun _ => 0))), (q_8, .inl (cI, 61, .inl (fun _ => 0))), (q_9, .inl (cI, 61, .inl (fun _ => 0))), (q_10, .inl (cI, 61, .inl (fun _ => 0))), (q_11, .inr (8, [.ref oC, .ref oK, .int 0, .int 32, .int 0, .int 0]))] := hDn
  have hS := hSn
  clear hPn hDn hSn
  refine lv_aload_n hx hb dX6_init_106 rfl (lv_at hl 0 rfl) ?_
  refine lv_iconst (v := 0) hx hb dX6_init_107 (by decide) ?_
  refine va_put (D := (dC, dI)) (ci := 6) (v := .int 0) (ty := .int) (C := RX6) (T := TX6) (N := 12) hx hb hts in_X6 tyX6 tyX6_ok nmX6 hown hK hP hD hS 0 rfl rfl 11 (by decide) (hts (.fieldLink RX6 60 "TextMender$Parting" "price" "I") (List.mem_of_getElem? (i := 22) rfl)) (fun _ h9 => h9) rfl (tyX6_ok 11 (Nat.le_of_ble_eq_true rfl)) rfl rfl (Nat.le_of_ble_eq_true rfl) dX6_init_108 (fun H locs hPn hDn hSn => ?_)
  clear hP hD hS
  have hP : va_P (dC, dI) vwCl [(o, .inr (6, [.ref oC, .ref oH, .ref oK, .ref q_11, .ref q_1, .ref q_3, .ref q_5, .ref q_7, .ref q_8, .ref q_9, .ref q_10, .int 0])), (q_1, .inr (5, [.ref ar_2, .int 0])), (ar_2, .inl (cI, 480, .inl (fun _ => 0))), (q_3, .inr (5, [.ref ar_4, .int 0])), (ar_4, .inl (cI, 300, .inl (fun _ => 0))), (q_5, .inr (5, [.ref ar_6, .int 0])), (ar_6, .inl (cI, 300, .inl (fun _ => 0))), (q_7, .inl (cI, 61, .inl (fun _ => 0))), (q_8, .inl (cI, 61, .inl (fun _ => 0))), (q_9, .inl (cI, 61, .inl (fun _ => 0))), (q_10, .inl (cI, 61, .inl (fun _ => 0))), (q_11, .inr (8, [.ref oC, .ref oK, .int 0, .int 32, .int 0, .int 0]))] H := hPn
  have hD : va_D A [(o, .inr (6, [.ref oC, .ref oH, .ref oK, .ref q_11, .ref q_1, .ref q_3, .ref q_5, .ref q_7, .ref q_8, .ref q_9, .ref q_10, .int 0])), (q_1, .inr (5, [.ref ar_2, .int 0])), (ar_2, .inl (cI, 480, .inl (fun _ => 0))), (q_3, .inr (5, [.ref ar_4, .int 0])), (ar_4, .inl (cI, 300, .inl (fun _ => 0))), (q_5, .inr (5, [.ref ar_6, .int 0])), (ar_6, .inl (cI, 300, .inl (fun _ => 0))), (q_7, .inl (cI, 61, .inl (fun _ => 0))), (q_8, .inl (cI, 61, .inl (fun _ => 0))), (q_9, .inl (cI, 61, .inl (fun _ => 0))), (q_10, .inl (cI, 61, .inl (fun _ => 0))), (q_11, .inr (8, [.ref oC, .ref oK, .int 0, .int 32, .int 0, .int 0]))] := hDn
  have hS := hSn
  clear hPn hDn hSn
  have hP9 := hP.sub (ws' := [(o, .inr (6, [.ref oC, .ref oH, .ref oK, .ref q_11, .ref q_1, .ref q_3, .ref q_5, .ref q_7, .ref q_8, .ref q_9, .ref q_10, .int 0])), (q_11, .inr (8, [.ref oC, .ref oK, .int 0, .int 32, .int 0, .int 0])), (q_1, .inr (5, [.ref ar_2, .int 0])), (ar_2, .inl (cI, 480, .inl (fun _ => 0))), (q_3, .inr (5, [.ref ar_4, .int 0])), (ar_4, .inl (cI, 300, .inl (fun _ => 0))), (q_5, .inr (5, [.ref ar_6, .int 0])), (ar_6, .inl (cI, 300, .inl (fun _ => 0))), (q_7, .inl (cI, 61, .inl (fun _ => 0))), (q_8, .inl (cI, 61, .inl (fun _ => 0))), (q_9, .inl (cI, 61, .inl (fun _ => 0))), (q_10, .inl (cI, 61, .inl (fun _ => 0)))]) [0, 11, 1, 2, 3, 4, 5, 6, 7, 8, 9, 10] rfl
  have hD9 := hD.sub (ws' := [(o, .inr (6, [.ref oC, .ref oH, .ref oK, .ref q_11, .ref q_1, .ref q_3, .ref q_5, .ref q_7, .ref q_8, .ref q_9, .ref q_10, .int 0])), (q_11, .inr (8, [.ref oC, .ref oK, .int 0, .int 32, .int 0, .int 0])), (q_1, .inr (5, [.ref ar_2, .int 0])), (ar_2, .inl (cI, 480, .inl (fun _ => 0))), (q_3, .inr (5, [.ref ar_4, .int 0])), (ar_4, .inl (cI, 300, .inl (fun _ => 0))), (q_5, .inr (5, [.ref ar_6, .int 0])), (ar_6, .inl (cI, 300, .inl (fun _ => 0))), (q_7, .inl (cI, 61, .inl (fun _ => 0))), (q_8, .inl (cI, 61, .inl (fun _ => 0))), (q_9, .inl (cI, 61, .inl (fun _ => 0))), (q_10, .inl (cI, 61, .inl (fun _ => 0)))]) [0, 11, 1, 2, 3, 4, 5, 6, 7, 8, 9, 10] (by decide +kernel) rfl
  refine W.widen (k := 11) (n := 1336) (by omega) (by omega) ?_
  exact W.vret hx hb hr (fun t ht hW => ⟨⟨(), rfl, trivial, q_11, q_1, ar_2, q_3, ar_4, q_5, ar_6, q_7, q_8, q_9, q_10, by rw [ht]; exact hP9, hD9⟩, hS.F ht⟩) (hS.2.2) dX6_init_111

set_option maxHeartbeats 4000000 in
set_option maxRecDepth 100000 in
theorem k_X1_init (l : Launch) (dC : Nat → ClassId) (dI : Nat → Nat → Nat) (cI cS : ClassId) (sz : Nat) (o : Nat) (oC : Nat) (oK : Nat)  : Met l yX1_init wsX1_init ({ frames := 2, cells := 12, slots := 4023, locals := 42 } : Room) (va_Pc [.ref o, .ref oC, .ref oK] (fun U => U.heap.size = sz ∧ va_P (dC, dI) vwCl [(o, .inr (1, [.null, .null, .null, .null, .null, .null, .null, .null, .null, .null, .null, .null, .null, .int 0, .int 0, .int 0, .int 0, .int 0, .int 0, .int 0]))] U.heap ∧ va_K (dC, dI) vwCl [(cI, .int), (cS, .short)] U ∧ va_D (fun _ => True) [(o, .inr (1, [.null, .null, .null, .null, .null, .null, .null, .null, .null, .null, .null, .null, .null, .int 0, .int 0, .int 0, .int 0, .int 0, .int 0, .int 0]))])) (va_Qv (fun (_ : Unit) => True) (fun _ t => ∃ (nw : Nat) (aw : Nat) (o7 : Nat) (o8 : Nat) (o9 : Nat) (w1 : Nat) (w2 : Nat) (w3 : Nat) (w4 : Nat) (w5 : Nat) (w6 : Nat) (w7 : Nat), va_P (dC, dI) vwCl [(o, .inr (1, [.ref oC, .ref oK, .ref nw, .ref w1, .ref w2, .ref w3, .ref o7, .ref o8, .ref o9, .ref w4, .ref w5, .ref w6, .ref w7, .int 0, .int 0, .int 0, .int (-1), .int (-1), .int (-1), .int (-1)])), (nw, .inr (5, [.ref aw, .int 0])), (aw, .inl (cI, 800, .inl (fun _ => 0))), (o7, .inr (8, [.ref oC, .ref oK, .int 0, .int 32, .int 0, .int 0])), (o8, .inr (8, [.ref oC, .ref oK, .int 0, .int 32, .int 0, .int 0])), (o9, .inr (8, [.ref oC, .ref oK, .int 0, .int 32, .int 0, .int 0])), (w1, .inl (cI, 801, .inl (fun _ => 0))), (w2, .inl (cI, 801, .inl (fun _ => 0))), (w3, .inl (cI, 801, .inl (fun _ => 0))), (w4, .inl (cI, 200, .inl (fun _ => 0))), (w5, .inl (cI, 200, .inl (fun _ => 0))), (w6, .inl (cI, 200, .inl (fun _ => 0))), (w7, .inl (cI, 200, .inl (fun _ => 0)))] t.heap ∧ va_D (va_A [(o, .inr (1, [.null, .null, .null, .null, .null, .null, .null, .null, .null, .null, .null, .null, .null, .int 0, .int 0, .int 0, .int 0, .int 0, .int 0, .int 0]))] sz) [(o, .inr (1, [.ref oC, .ref oK, .ref nw, .ref w1, .ref w2, .ref w3, .ref o7, .ref o8, .ref o9, .ref w4, .ref w5, .ref w6, .ref w7, .int 0, .int 0, .int 0, .int (-1), .int (-1), .int (-1), .int (-1)])), (nw, .inr (5, [.ref aw, .int 0])), (aw, .inl (cI, 800, .inl (fun _ => 0))), (o7, .inr (8, [.ref oC, .ref oK, .int 0, .int 32, .int 0, .int 0])), (o8, .inr (8, [.ref oC, .ref oK, .int 0, .int 32, .int 0, .int 0])), (o9, .inr (8, [.ref oC, .ref oK, .int 0, .int 32, .int 0, .int 0])), (w1, .inl (cI, 801, .inl (fun _ => 0))), (w2, .inl (cI, 801, .inl (fun _ => 0))), (w3, .inl (cI, 801, .inl (fun _ => 0))), (w4, .inl (cI, 200, .inl (fun _ => 0))), (w5, .inl (cI, 200, .inl (fun _ => 0))), (w6, .inl (cI, 200, .inl (fun _ => 0))), (w7, .inl (cI, 200, .inl (fun _ => 0)))]) (va_A [(o, .inr (1, [.null, .null, .null, .null, .null, .null, .null, .null, .null, .null, .null, .null, .null, .int 0, .int 0, .int 0, .int 0, .int 0, .int 0, .int 0]))] sz)) 12 4023 (va_A [(o, .inr (1, [.null, .null, .null, .null, .null, .null, .null, .null, .null, .null, .null, .null, .null, .int 0, .int 0, .int 0, .int 0, .int 0, .int 0, .int 0]))] sz) := by
  refine Met.ofW (cc := cX1_init) (maxL := 3) (ret := none) (by decide) rfl ?_
  intro p e s m args below meth c s₁ B hml hv
  obtain ⟨rfl, hsz, hP, hK, hD0⟩ := hv
  have hx := B.exec
  have hb := B.bytes
  have hr := B.returns
  have hts := atoms_spec (ws := wsX1_init) B.pre
  have hown : s.vm.findClass RX1 = some m.cls := findClass_of_methodNamed B.named
  have hlocks := B.notSynchronized
  have hin : meth.name = "<init>" := (name_of_methodNamed B.named B.method).1
  have in_X1 : ∀ w ∈ wsX10, w ∈ wsX1_init := fun _ h => List.mem_cons_of_mem _ (List.mem_append_left _ (List.mem_append_left _ (List.mem_append_left _ (List.mem_append_right _ (h)))))
  have in_X5 : ∀ w ∈ wsX50, w ∈ wsX1_init := fun _ h => List.mem_cons_of_mem _ (List.mem_append_left _ (List.mem_append_left _ (List.mem_append_left _ (List.mem_append_left _ (List.mem_append_right _ (h))))))
  have in_X8 : ∀ w ∈ wsX80, w ∈ wsX1_init := fun _ h => List.mem_cons_of_mem _ (List.mem_append_left _ (List.mem_append_left _ (List.mem_append_right _ (h))))
  subst hsz
  have hD := hD0.self (sz := s.heap.size)
  generalize hAe : va_A [(o, .inr (1, [.null, .null, .null, .null, .null, .null, .null, .null, .null, .null, .null, .null, .null, .int 0, .int 0, .int 0, .int 0, .int 0, .int 0, .int 0]))] s.heap.size = A at hD ⊢
  have hA : ∀ q : Nat, s.heap.size ≤ q → A q := fun q h => by rw [← hAe]; exact Or.inr h
  have hS : va_S A s.heap s.heap [] := va_S.rf
  have hP : va_P (dC, dI) vwCl [(o, .inr (1, [.null, .null, .null, .null, .null, .null, .null, .null, .null, .null, .null, .null, .null, .int 0, .int 0, .int 0, .int 0, .int 0, .int 0, .int 0]))] s.heap := hP
  have hl := lv_entry ([.ref o, .ref oC, .ref oK]) (n := 3) (Nat.le_of_ble_eq_true rfl)
  rw [lg_entry_eq]
  generalize (lg_sl ([.ref o, .ref oC, .ref oK]) ++ List.replicate (3 - (lg_sl ([.ref o, .ref oC, .ref oK])).length) Slot.unset).toArray = ls at hl ⊢
  have hl : lv_has ls 3 [(0, .ref o), (1, .ref oC), (2, .ref oK)] := hl
  refine lv_aload_n hx hb dX1_init_0 rfl (lv_at hl 0 rfl) ?_
  refine W.objInit hx hb hown (hts (.methodLink RX1 3 objectInit) (List.mem_of_getElem? (i := 1) rfl)) (hts (.instanceMethod objectInit) (List.mem_of_getElem? (i := 2) rfl)) (hts (.code objectInit ⟨#[0xb1]⟩ 1 none) (List.mem_of_getElem? (i := 3) rfl)) rfl (by rw [hml]; exact hl.1) rfl dX1_init_1 (Nat.le_of_ble_eq_true rfl) (Nat.le_of_ble_eq_true rfl) ?_
  refine W.eq (g2 := F0 m 4 ls []) rfl ?_
  refine lv_aload_n hx hb dX1_init_4 rfl (lv_at hl 0 rfl) ?_
  refine va_new (ci := 5) (fs := [.null, .int 0]) (C := RX5) (T := TX5) (N := 2) hx hb hts in_X5 tyX5 tyX5_ok hown (hts (.classLink RX1 9 RX5) (List.mem_of_getElem? (i := 4) rfl)) (hts (.instantiable RX5 2) (List.mem_of_getElem? (i := 5) rfl)) (hts (.initialized RX5) (List.mem_of_getElem? (i := 6) rfl)) hK hP hD hS hA rfl (p_fsX5) (Nat.le_of_ble_eq_true rfl) (Nat.le_of_ble_eq_true rfl) dX1_init_5 (fun q_1 H hPn hDn hSn => ?_)
  clear hP hD hS
  have hP : va_P (dC, dI) vwCl [(o, .inr (1, [.null, .null, .null, .null, .null, .null, .null, .null, .null, .null, .null, .null, .null, .int 0, .int 0, .int 0, .int 0, .int 0, .int 0, .int 0])), (q_1, .inr (5, [.null, .int 0]))] H := hPn
  have hD : va_D A [(o, .inr (1, [.null, .null, .null, .null, .null, .null, .null, .null, .null, .null, .null, .null, .null, .int 0, .int 0, .int 0, .int 0, .int 0, .int 0, .int 0])), (q_1, .inr (5, [.null, .int 0]))] := hDn
  have hS := hSn
  clear hPn hDn hSn
  refine W.widen (k := 1) (n := 2) (Nat.le_of_ble_eq_true rfl) (Nat.le_of_ble_eq_true rfl) ?_
  refine lv_dup hx hb dX1_init_8 rfl ?_
  refine lv_sipush (v := 800) hx hb dX1_init_9 (by decide) ?_
  have hPc := hP.sub (ws' := [(q_1, .inr (5, [.null, .int 0]))]) [1] rfl
  have hDc := hD.sub (ws' := [(q_1, .inr (5, [.null, .int 0]))]) [1] (by decide +kernel) rfl
  have hFc := va_free (wc := [(q_1, .inr (5, [.null, .int 0]))]) hD hS hA [1] rfl
  refine va_callv (va_runI (As := [.int 800]) (rest := [.ref q_1, .ref o]) ⟨hx, hb, hml, hown, hts⟩ (k_X5_init l dC dI cI cS H.size q_1 800 800 (by decide) (by decide) (by decide)) (cwI 1 hts gX1_init_X5_init rfl rfl rfl (hts (.initialized RX5) (List.mem_of_getElem? (i := 6) rfl)) (hts (.methodLink RX1 13 yX5_init) (List.mem_of_getElem? (i := 31) rfl)) (hts (.instanceMethod yX5_init) (List.mem_of_getElem? (i := 32) rfl)) rfl (by decide +kernel) ⟨Nat.le_of_ble_eq_true rfl, Nat.le_of_ble_eq_true rfl⟩) ⟨fun a U g mk q => by obtain ⟨q0, q1, qP, qK, qD⟩ := q; exact ⟨q0, q1, qP, va_K.moved (u := U) (U := U.calling g mk a) (Vm.Alike.refl U.vm) qK, qD⟩, fun U hU hW => ⟨rfl, by rw [hU], by rw [hU]; exact hPc, va_K.moved hW.alike hK, hDc.weaken (fun _ _ _ _ => trivial)⟩⟩ rfl rfl hl.1 rfl (lv_room (Nat.le_of_ble_eq_true rfl)) dX1_init_12 ⟨Nat.le_of_ble_eq_true rfl, Nat.le_of_ble_eq_true rfl⟩) hS (fun q _ h => hFc q h) hFc (fun u t H1 locs ht hvm hw hB hz1 hk1 hSn => ?_)
  refine Exists.elim hB (fun ar_2 hB2_0 => ?_)
  refine And.elim (fun hP1 hD1 => ?_) hB2_0
  clear hB hB2_0
  rw [ht] at hP1
  obtain ⟨hPn, hDn⟩ := va_join (wr := [(o, .inr (1, [.null, .null, .null, .null, .null, .null, .null, .null, .null, .null, .null, .null, .null, .int 0, .int 0, .int 0, .int 0, .int 0, .int 0, .int 0]))]) (w1 := [(q_1, .inr (5, [.ref ar_2, .int 0])), (ar_2, .inl (cI, 800, .inl (fun _ => 0)))]) hP hD [1] [0] rfl rfl (by decide +kernel) (by decide +kernel) hk1 hFc hP1 hD1
  clear hP hD hS hPc hDc hFc hk1 hz1 hvm ht hP1 hD1
  generalize H1 = H at hPn hSn ⊢
  have hP : va_P (dC, dI) vwCl [(o, .inr (1, [.null, .null, .null, .null, .null, .null, .null, .null, .null, .null, .null, .null, .null, .int 0, .int 0, .int 0, .int 0, .int 0, .int 0, .int 0])), (q_1, .inr (5, [.ref ar_2, .int 0])), (ar_2, .inl (cI, 800, .inl (fun _ => 0)))] H := hPn
  have hD : va_D A [(o, .inr (1, [.null, .null, .null, .null, .null, .null, .null, .null, .null, .null, .null, .null, .null, .int 0, .int 0, .int 0, .int 0, .int 0, .int 0, .int 0])), (q_1, .inr (5, [.ref ar_2, .int 0])), (ar_2, .inl (cI, 800, .inl (fun _ => 0)))] := hDn
  have hS := hSn
  clear hPn hDn hSn
  refine W.widen (k := 2) (n := 802) (Nat.le_of_ble_eq_true rfl) (Nat.le_of_ble_eq_true rfl) ?_
  refine va_putF (D := (dC, dI)) (ci := 1) (v := .ref q_1) (ty := .object "TextMender$Numbers") (C := RX1) (T := TX1) (N := 20) hx hb hts in_X1 tyX1 tyX1_ok nmX1 hown hK hP hD hS 0 rfl rfl 2 (by decide) (hts (.fieldLink RX1 16 "TextMender$Choices" "bytes" "LTextMender$Numbers;") (List.mem_of_getElem? (i := 7) rfl)) (fun _ h9 => h9) rfl hin rfl (tyX1_ok 2 (Nat.le_of_ble_eq_true rfl)) rfl rfl (Nat.le_of_ble_eq_true rfl) dX1_init_15 (fun H locs hPn hDn hSn => ?_)
  clear hP hD hS
  have hP : va_P (dC, dI) vwCl [(o, .inr (1, [.null, .null, .ref q_1, .null, .null, .null, .null, .null, .null, .null, .null, .null, .null, .int 0, .int 0, .int 0, .int 0, .int 0, .int 0, .int 0])), (q_1, .inr (5, [.ref ar_2, .int 0])), (ar_2, .inl (cI, 800, .inl (fun _ => 0)))] H := hPn
  have hD : va_D A [(o, .inr (1, [.null, .null, .ref q_1, .null, .null, .null, .null, .null, .null, .null, .null, .null, .null, .int 0, .int 0, .int 0, .int 0, .int 0, .int 0, .int 0])), (q_1, .inr (5, [.ref ar_2, .int 0])), (ar_2, .inl (cI, 800, .inl (fun _ => 0)))] := hDn
  have hS := hSn
  clear hPn hDn hSn
  refine lv_aload_n hx hb dX1_init_18 rfl (lv_at hl 0 rfl) ?_
  refine lv_sipush (v := 801) hx hb dX1_init_19 (by decide) ?_
  refine p_newint hx hb (hts (.arrayClass .int) (List.mem_of_getElem? (i := 8) rfl)) hK hP hD hS hA (n := 801) (N := 801) (by decide) (by decide) (by decide) (Nat.le_of_ble_eq_true rfl) (Nat.le_of_ble_eq_true rfl) dX1_init_22 (fun q_3 H hPn hDn hSn => ?_)
  clear hP hD hS
  have hP : va_P (dC, dI) vwCl [(o, .inr (1, [.null, .null, .ref q_1, .null, .null, .null, .null, .null, .null, .null, .null, .null, .null, .int 0, .int 0, .int 0, .int 0, .int 0, .int 0, .int 0])), (q_1, .inr (5, [.ref ar_2, .int 0])), (ar_2, .inl (cI, 800, .inl (fun _ => 0))), (q_3, .inl (cI, 801, .inl (fun _ => 0)))] H := hPn
  have hD : va_D A [(o, .inr (1, [.null, .null, .ref q_1, .null, .null, .null, .null, .null, .null, .null, .null, .null, .null, .int 0, .int 0, .int 0, .int 0, .int 0, .int 0, .int 0])), (q_1, .inr (5, [.ref ar_2, .int 0])), (ar_2, .inl (cI, 800, .inl (fun _ => 0))), (q_3, .inl (cI, 801, .inl (fun _ => 0)))] := hDn
  have hS := hSn
  clear hPn hDn hSn
  refine W.widen (k := 3) (n := 1603) (Nat.le_of_ble_eq_true rfl) (Nat.le_of_ble_eq_true rfl) ?_
  refine va_putF (D := (dC, dI)) (ci := 1) (v := .ref q_3) (ty := .array .int) (C := RX1) (T := TX1) (N := 20) hx hb hts in_X1 tyX1 tyX1_ok nmX1 hown hK hP hD hS 0 rfl rfl 3 (by decide) (hts (.fieldLink RX1 20 "TextMender$Choices" "tailFirst" "[I") (List.mem_of_getElem? (i := 9) rfl)) (fun _ h9 => h9) rfl hin rfl (tyX1_ok 3 (Nat.le_of_ble_eq_true rfl)) rfl rfl (Nat.le_of_ble_eq_true rfl) dX1_init_24 (fun H locs hPn hDn hSn => ?_)
  clear hP hD hS
  have hP : va_P (dC, dI) vwCl [(o, .inr (1, [.null, .null, .ref q_1, .ref q_3, .null, .null, .null, .null, .null, .null, .null, .null, .null, .int 0, .int 0, .int 0, .int 0, .int 0, .int 0, .int 0])), (q_1, .inr (5, [.ref ar_2, .int 0])), (ar_2, .inl (cI, 800, .inl (fun _ => 0))), (q_3, .inl (cI, 801, .inl (fun _ => 0)))] H := hPn
  have hD : va_D A [(o, .inr (1, [.null, .null, .ref q_1, .ref q_3, .null, .null, .null, .null, .null, .null, .null, .null, .null, .int 0, .int 0, .int 0, .int 0, .int 0, .int 0, .int 0])), (q_1, .inr (5, [.ref ar_2, .int 0])), (ar_2, .inl (cI, 800, .inl (fun _ => 0))), (q_3, .inl (cI, 801, .inl (fun _ => 0)))] := hDn
  have hS := hSn
  clear hPn hDn hSn
  refine lv_aload_n hx hb dX1_init_27 rfl (lv_at hl 0 rfl) ?_
  refine lv_sipush (v := 801) hx hb dX1_init_28 (by decide) ?_
  refine p_newint hx hb (hts (.arrayClass .int) (List.mem_of_getElem? (i := 8) rfl)) hK hP hD hS hA (n := 801) (N := 801) (by decide) (by decide) (by decide) (Nat.le_of_ble_eq_true rfl) (Nat.le_of_ble_eq_true rfl) dX1_init_31 (fun q_4 H hPn hDn hSn => ?_)
  clear hP hD hS
  have hP : va_P (dC, dI) vwCl [(o, .inr (1, [.null, .null, .ref q_1, .ref q_3, .null, .null, .null, .null, .null, .null, .null, .null, .null, .int 0, .int 0, .int 0, .int 0, .int 0, .int 0, .int 0])), (q_1, .inr (5, [.ref ar_2, .int 0])), (ar_2, .inl (cI, 800, .inl (fun _ => 0))), (q_3, .inl (cI, 801, .inl (fun _ => 0))), (q_4, .inl (cI, 801, .inl (fun _ => 0)))] H := hPn
  have hD : va_D A [(o, .inr (1, [.null, .null, .ref q_1, .ref q_3, .null, .null, .null, .null, .null, .null, .null, .null, .null, .int 0, .int 0, .int 0, .int 0, .int 0, .int 0, .int 0])), (q_1, .inr (5, [.ref ar_2, .int 0])), (ar_2, .inl (cI, 800, .inl (fun _ => 0))), (q_3, .inl (cI, 801, .inl (fun _ => 0))), (q_4, .inl (cI, 801, .inl (fun _ => 0)))] := hDn
  have hS := hSn
  clear hPn hDn hSn
  refine W.widen (k := 4) (n := 2404) (Nat.le_of_ble_eq_true rfl) (Nat.le_of_ble_eq_true rfl) ?_
  refine va_putF (D := (dC, dI)) (ci := 1) (v := .ref q_4) (ty := .array .int) (C := RX1) (T := TX1) (N := 20) hx hb hts in_X1 tyX1 tyX1_ok nmX1 hown hK hP hD hS 0 rfl rfl 4 (by decide) (hts (.fieldLink RX1 24 "TextMender$Choices" "tailSum" "[I") (List.mem_of_getElem? (i := 10) rfl)) (fun _ h9 => h9) rfl hin rfl (tyX1_ok 4 (Nat.le_of_ble_eq_true rfl)) rfl rfl (Nat.le_of_ble_eq_true rfl) dX1_init_33 (fun H locs hPn hDn hSn => ?_)
  clear hP hD hS
  have hP : va_P (dC, dI) vwCl [(o, .inr (1, [.null, .null, .ref q_1, .ref q_3, .ref q_4, .null, .null, .null, .null, .null, .null, .null, .null, .int 0, .int 0, .int 0, .int 0, .int 0, .int 0, .int 0])), (q_1, .inr (5, [.ref ar_2, .int 0])), (ar_2, .inl (cI, 800, .inl (fun _ => 0))), (q_3, .inl (cI, 801, .inl (fun _ => 0))), (q_4, .inl (cI, 801, .inl (fun _ => 0)))] H := hPn
  have hD : va_D A [(o, .inr (1, [.null, .null, .ref q_1, .ref q_3, .ref q_4, .null, .null, .null, .null, .null, .null, .null, .null, .int 0, .int 0, .int 0, .int 0, .int 0, .int 0, .int 0])), (q_1, .inr (5, [.ref ar_2, .int 0])), (ar_2, .inl (cI, 800, .inl (fun _ => 0))), (q_3, .inl (cI, 801, .inl (fun _ => 0))), (q_4, .inl (cI, 801, .inl (fun _ => 0)))] := hDn
  have hS := hSn
  clear hPn hDn hSn
  refine lv_aload_n hx hb dX1_init_36 rfl (lv_at hl 0 rfl) ?_
  refine lv_sipush (v := 801) hx hb dX1_init_37 (by decide) ?_
  refine p_newint hx hb (hts (.arrayClass .int) (List.mem_of_getElem? (i := 8) rfl)) hK hP hD hS hA (n := 801) (N := 801) (by decide) (by decide) (by decide) (Nat.le_of_ble_eq_true rfl) (Nat.le_of_ble_eq_true rfl) dX1_init_40 (fun q_5 H hPn hDn hSn => ?_)
  clear hP hD hS
  have hP : va_P (dC, dI) vwCl [(o, .inr (1, [.null, .null, .ref q_1, .ref q_3, .ref q_4, .null, .null, .null, .null, .null, .null, .null, .null, .int 0, .int 0, .int 0, .int 0, .int 0, .int 0, .int 0])), (q_1, .inr (5, [.ref ar_2, .int 0])), (ar_2, .inl (cI, 800, .inl (fun _ => 0))), (q_3, .inl (cI, 801, .inl (fun _ => 0))), (q_4, .inl (cI, 801, .inl (fun _ => 0))), (q_5, .inl (cI, 801, .inl (fun _ => 0)))] H := hPn
  have hD : va_D A [(o, .inr (1, [.null, .null, .ref q_1, .ref q_3, .ref q_4, .null, .null, .null, .null, .null, .null, .null, .null, .int 0, .int 0, .int 0, .int 0, .int 0, .int 0, .int 0])), (q_1, .inr (5, [.ref ar_2, .int 0])), (ar_2, .inl (cI, 800, .inl (fun _ => 0))), (q_3, .inl (cI, 801, .inl (fun _ => 0))), (q_4, .inl (cI, 801, .inl (fun _ => 0))), (q_5, .inl (cI, 801, .inl (fun _ => 0)))] := hDn
  have hS := hSn
  clear hPn hDn hSn
  refine W.widen (k := 5) (n := 3205) (Nat.le_of_ble_eq_true rfl) (Nat.le_of_ble_eq_true rfl) ?_
  refine va_putF (D := (dC, dI)) (ci := 1) (v := .ref q_5) (ty := .array .int) (C := RX1) (T := TX1) (N := 20) hx hb hts in_X1 tyX1 tyX1_ok nmX1 hown hK hP hD hS 0 rfl rfl 5 (by decide) (hts (.fieldLink RX1 27 "TextMender$Choices" "tailLetters" "[I") (List.mem_of_getElem? (i := 11) rfl)) (fun _ h9 => h9) rfl hin rfl (tyX1_ok 5 (Nat.le_of_ble_eq_true rfl)) rfl rfl (Nat.le_of_ble_eq_true rfl) dX1_init_42 (fun H locs hPn hDn hSn => ?_)
  clear hP hD hS
  have hP : va_P (dC, dI) vwCl [(o, .inr (1, [.null, .null, .ref q_1, .ref q_3, .ref q_4, .ref q_5, .null, .null, .null, .null, .null, .null, .null, .int 0, .int 0, .int 0, .int 0, .int 0, .int 0, .int 0])), (q_1, .inr (5, [.ref ar_2, .int 0])), (ar_2, .inl (cI, 800, .inl (fun _ => 0))), (q_3, .inl (cI, 801, .inl (fun _ => 0))), (q_4, .inl (cI, 801, .inl (fun _ => 0))), (q_5, .inl (cI, 801, .inl (fun _ => 0)))] H := hPn
  have hD : va_D A [(o, .inr (1, [.null, .null, .ref q_1, .ref q_3, .ref q_4, .ref q_5, .null, .null, .null, .null, .null, .null, .null, .int 0, .int 0, .int 0, .int 0, .int 0, .int 0, .int 0])), (q_1, .inr (5, [.ref ar_2, .int 0])), (ar_2, .inl (cI, 800, .inl (fun _ => 0))), (q_3, .inl (cI, 801, .inl (fun _ => 0))), (q_4, .inl (cI, 801, .inl (fun _ => 0))), (q_5, .inl (cI, 801, .inl (fun _ => 0)))] := hDn
  have hS := hSn
  clear hPn hDn hSn
  refine lv_aload_n hx hb dX1_init_45 rfl (lv_at hl 0 rfl) ?_
  refine lv_sipush (v := 200) hx hb dX1_init_46 (by decide) ?_
  refine p_newint hx hb (hts (.arrayClass .int) (List.mem_of_getElem? (i := 8) rfl)) hK hP hD hS hA (n := 200) (N := 200) (by decide) (by decide) (by decide) (Nat.le_of_ble_eq_true rfl) (Nat.le_of_ble_eq_true rfl) dX1_init_49 (fun q_6 H hPn hDn hSn => ?_)
  clear hP hD hS
  have hP : va_P (dC, dI) vwCl [(o, .inr (1, [.null, .null, .ref q_1, .ref q_3, .ref q_4, .ref q_5, .null, .null, .null, .null, .null, .null, .null, .int 0, .int 0, .int 0, .int 0, .int 0, .int 0, .int 0])), (q_1, .inr (5, [.ref ar_2, .int 0])), (ar_2, .inl (cI, 800, .inl (fun _ => 0))), (q_3, .inl (cI, 801, .inl (fun _ => 0))), (q_4, .inl (cI, 801, .inl (fun _ => 0))), (q_5, .inl (cI, 801, .inl (fun _ => 0))), (q_6, .inl (cI, 200, .inl (fun _ => 0)))] H := hPn
  have hD : va_D A [(o, .inr (1, [.null, .null, .ref q_1, .ref q_3, .ref q_4, .ref q_5, .null, .null, .null, .null, .null, .null, .null, .int 0, .int 0, .int 0, .int 0, .int 0, .int 0, .int 0])), (q_1, .inr (5, [.ref ar_2, .int 0])), (ar_2, .inl (cI, 800, .inl (fun _ => 0))), (q_3, .inl (cI, 801, .inl (fun _ => 0))), (q_4, .inl (cI, 801, .inl (fun _ => 0))), (q_5, .inl (cI, 801, .inl (fun _ => 0))), (q_6, .inl (cI, 200, .inl (fun _ => 0)))] := hDn
  have hS := hSn
  clear hPn hDn hSn
  refine W.widen (k := 6) (n := 3405) (Nat.le_of_ble_eq_true rfl) (Nat.le_of_ble_eq_true rfl) ?_
  refine va_putF (D := (dC, dI)) (ci := 1) (v := .ref q_6) (ty := .array .int) (C := RX1) (T := TX1) (N := 20) hx hb hts in_X1 tyX1 tyX1_ok nmX1 hown hK hP hD hS 0 rfl rfl 9 (by decide) (hts (.fieldLink RX1 30 "TextMender$Choices" "firstByte" "[I") (List.mem_of_getElem? (i := 12) rfl)) (fun _ h9 => h9) rfl hin rfl (tyX1_ok 9 (Nat.le_of_ble_eq_true rfl)) rfl rfl (Nat.le_of_ble_eq_true rfl) dX1_init_51 (fun H locs hPn hDn hSn => ?_)
  clear hP hD hS
  have hP : va_P (dC, dI) vwCl [(o, .inr (1, [.null, .null, .ref q_1, .ref q_3, .ref q_4, .ref q_5, .null, .null, .null, .ref q_6, .null, .null, .null, .int 0, .int 0, .int 0, .int 0, .int 0, .int 0, .int 0])), (q_1, .inr (5, [.ref ar_2, .int 0])), (ar_2, .inl (cI, 800, .inl (fun _ => 0))), (q_3, .inl (cI, 801, .inl (fun _ => 0))), (q_4, .inl (cI, 801, .inl (fun _ => 0))), (q_5, .inl (cI, 801, .inl (fun _ => 0))), (q_6, .inl (cI, 200, .inl (fun _ => 0)))] H := hPn
  have hD : va_D A [(o, .inr (1, [.null, .null, .ref q_1, .ref q_3, .ref q_4, .ref q_5, .null, .null, .null, .ref q_6, .null, .null, .null, .int 0, .int 0, .int 0, .int 0, .int 0, .int 0, .int 0])), (q_1, .inr (5, [.ref ar_2, .int 0])), (ar_2, .inl (cI, 800, .inl (fun _ => 0))), (q_3, .inl (cI, 801, .inl (fun _ => 0))), (q_4, .inl (cI, 801, .inl (fun _ => 0))), (q_5, .inl (cI, 801, .inl (fun _ => 0))), (q_6, .inl (cI, 200, .inl (fun _ => 0)))] := hDn
  have hS := hSn
  clear hPn hDn hSn
  refine lv_aload_n hx hb dX1_init_54 rfl (lv_at hl 0 rfl) ?_
  refine lv_sipush (v := 200) hx hb dX1_init_55 (by decide) ?_
  refine p_newint hx hb (hts (.arrayClass .int) (List.mem_of_getElem? (i := 8) rfl)) hK hP hD hS hA (n := 200) (N := 200) (by decide) (by decide) (by decide) (Nat.le_of_ble_eq_true rfl) (Nat.le_of_ble_eq_true rfl) dX1_init_58 (fun q_7 H hPn hDn hSn => ?_)
  clear hP hD hS
  have hP : va_P (dC, dI) vwCl [(o, .inr (1, [.null, .null, .ref q_1, .ref q_3, .ref q_4, .ref q_5, .null, .null, .null, .ref q_6, .null, .null, .null, .int 0, .int 0, .int 0, .int 0, .int 0, .int 0, .int 0])), (q_1, .inr (5, [.ref ar_2, .int 0])), (ar_2, .inl (cI, 800, .inl (fun _ => 0))), (q_3, .inl (cI, 801, .inl (fun _ => 0))), (q_4, .inl (cI, 801, .inl (fun _ => 0))), (q_5, .inl (cI, 801, .inl (fun _ => 0))), (q_6, .inl (cI, 200, .inl (fun _ => 0))), (q_7, .inl (cI, 200, .inl (fun _ => 0)))] H := hPn
  have hD : va_D A [(o, .inr (1, [.null, .null, .ref q_1, .ref q_3, .ref q_4, .ref q_5, .null, .null, .null, .ref q_6, .null, .null, .null, .int 0, .int 0, .int 0, .int 0, .int 0, .int 0, .int 0])), (q_1, .inr (5, [.ref ar_2, .int 0])), (ar_2, .inl (cI, 800, .inl (fun _ => 0))), (q_3, .inl (cI, 801, .inl (fun _ => 0))), (q_4, .inl (cI, 801, .inl (fun _ => 0))), (q_5, .inl (cI, 801, .inl (fun _ => 0))), (q_6, .inl (cI, 200, .inl (fun _ => 0))), (q_7, .inl (cI, 200, .inl (fun _ => 0)))] := hDn
  have hS := hSn
  clear hPn hDn hSn
  refine W.widen (k := 7) (n := 3605) (Nat.le_of_ble_eq_true rfl) (Nat.le_of_ble_eq_true rfl) ?_
  refine va_putF (D := (dC, dI)) (ci := 1) (v := .ref q_7) (ty := .array .int) (C := RX1) (T := TX1) (N := 20) hx hb hts in_X1 tyX1 tyX1_ok nmX1 hown hK hP hD hS 0 rfl rfl 10 (by decide) (hts (.fieldLink RX1 33 "TextMender$Choices" "secondByte" "[I") (List.mem_of_getElem? (i := 13) rfl)) (fun _ h9 => h9) rfl hin rfl (tyX1_ok 10 (Nat.le_of_ble_eq_true rfl)) rfl rfl (Nat.le_of_ble_eq_true rfl) dX1_init_60 (fun H locs hPn hDn hSn => ?_)
  clear hP hD hS
  have hP : va_P (dC, dI) vwCl [(o, .inr (1, [.null, .null, .ref q_1, .ref q_3, .ref q_4, .ref q_5, .null, .null, .null, .ref q_6, .ref q_7, .null, .null, .int 0, .int 0, .int 0, .int 0, .int 0, .int 0, .int 0])), (q_1, .inr (5, [.ref ar_2, .int 0])), (ar_2, .inl (cI, 800, .inl (fun _ => 0))), (q_3, .inl (cI, 801, .inl (fun _ => 0))), (q_4, .inl (cI, 801, .inl (fun _ => 0))), (q_5, .inl (cI, 801, .inl (fun _ => 0))), (q_6, .inl (cI, 200, .inl (fun _ => 0))), (q_7, .inl (cI, 200, .inl (fun _ => 0)))] H := hPn
  have hD : va_D A [(o, .inr (1, [.null, .null, .ref q_1, .ref q_3, .ref q_4, .ref q_5, .null, .null, .null, .ref q_6, .ref q_7, .null, .null, .int 0, .int 0, .int 0, .int 0, .int 0, .int 0, .int 0])), (q_1, .inr (5, [.ref ar_2, .int 0])), (ar_2, .inl (cI, 800, .inl (fun _ => 0))), (q_3, .inl (cI, 801, .inl (fun _ => 0))), (q_4, .inl (cI, 801, .inl (fun _ => 0))), (q_5, .inl (cI, 801, .inl (fun _ => 0))), (q_6, .inl (cI, 200, .inl (fun _ => 0))), (q_7, .inl (cI, 200, .inl (fun _ => 0)))] := hDn
  have hS := hSn
  clear hPn hDn hSn
  refine lv_aload_n hx hb dX1_init_63 rfl (lv_at hl 0 rfl) ?_
  refine lv_sipush (v := 200) hx hb dX1_init_64 (by decide) ?_
  refine p_newint hx hb (hts (.arrayClass .int) (List.mem_of_getElem? (i := 8) rfl)) hK hP hD hS hA (n := 200) (N := 200) (by decide) (by decide) (by decide) (Nat.le_of_ble_eq_true rfl) (Nat.le_of_ble_eq_true rfl) dX1_init_67 (fun q_8 H hPn hDn hSn => ?_)
  clear hP hD hS
  have hP : va_P (dC, dI) vwCl [(o, .inr (1, [.null, .null, .ref q_1, .ref q_3, .ref q_4, .ref q_5, .null, .null, .null, .ref q_6, .ref q_7, .null, .null, .int 0, .int 0, .int 0, .int 0, .int 0, .int 0, .int 0])), (q_1, .inr (5, [.ref ar_2, .int 0])), (ar_2, .inl (cI, 800, .inl (fun _ => 0))), (q_3, .inl (cI, 801, .inl (fun _ => 0))), (q_4, .inl (cI, 801, .inl (fun _ => 0))), (q_5, .inl (cI, 801, .inl (fun _ => 0))), (q_6, .inl (cI, 200, .inl (fun _ => 0))), (q_7, .inl (cI, 200, .inl (fun _ => 0))), (q_8, .inl (cI, 200, .inl (fun _ => 0)))] H := hPn
  have hD : va_D A [(o, .inr (1, [.null, .null, .ref q_1, .ref q_3, .ref q_4, .ref q_5, .null, .null, .null, .ref q_6, .ref q_7, .null, .null, .int 0, .int 0, .int 0, .int 0, .int 0, .int 0, .int 0])), (q_1, .inr (5, [.ref ar_2, .int 0])), (ar_2, .inl (cI, 800, .inl (fun _ => 0))), (q_3, .inl (cI, 801, .inl (fun _ => 0))), (q_4, .inl (cI, 801, .inl (fun _ => 0))), (q_5, .inl (cI, 801, .inl (fun _ => 0))), (q_6, .inl (cI, 200, .inl (fun _ => 0))), (q_7, .inl (cI, 200, .inl (fun _ => 0))), (q_8, .inl (cI, 200, .inl (fun _ => 0)))] := hDn
  have hS := hSn
  clear hPn hDn hSn
  refine W.widen (k := 8) (n := 3805) (Nat.le_of_ble_eq_true rfl) (Nat.le_of_ble_eq_true rfl) ?_
  refine va_putF (D := (dC, dI)) (ci := 1) (v := .ref q_8) (ty := .array .int) (C := RX1) (T := TX1) (N := 20) hx hb hts in_X1 tyX1 tyX1_ok nmX1 hown hK hP hD hS 0 rfl rfl 11 (by decide) (hts (.fieldLink RX1 36 "TextMender$Choices" "costOf" "[I") (List.mem_of_getElem? (i := 14) rfl)) (fun _ h9 => h9) rfl hin rfl (tyX1_ok 11 (Nat.le_of_ble_eq_true rfl)) rfl rfl (Nat.le_of_ble_eq_true rfl) dX1_init_69 (fun H locs hPn hDn hSn => ?_)
  clear hP hD hS
  have hP : va_P (dC, dI) vwCl [(o, .inr (1, [.null, .null, .ref q_1, .ref q_3, .ref q_4, .ref q_5, .null, .null, .null, .ref q_6, .ref q_7, .ref q_8, .null, .int 0, .int 0, .int 0, .int 0, .int 0, .int 0, .int 0])), (q_1, .inr (5, [.ref ar_2, .int 0])), (ar_2, .inl (cI, 800, .inl (fun _ => 0))), (q_3, .inl (cI, 801, .inl (fun _ => 0))), (q_4, .inl (cI, 801, .inl (fun _ => 0))), (q_5, .inl (cI, 801, .inl (fun _ => 0))), (q_6, .inl (cI, 200, .inl (fun _ => 0))), (q_7, .inl (cI, 200, .inl (fun _ => 0))), (q_8, .inl (cI, 200, .inl (fun _ => 0)))] H := hPn
  have hD : va_D A [(o, .inr (1, [.null, .null, .ref q_1, .ref q_3, .ref q_4, .ref q_5, .null, .null, .null, .ref q_6, .ref q_7, .ref q_8, .null, .int 0, .int 0, .int 0, .int 0, .int 0, .int 0, .int 0])), (q_1, .inr (5, [.ref ar_2, .int 0])), (ar_2, .inl (cI, 800, .inl (fun _ => 0))), (q_3, .inl (cI, 801, .inl (fun _ => 0))), (q_4, .inl (cI, 801, .inl (fun _ => 0))), (q_5, .inl (cI, 801, .inl (fun _ => 0))), (q_6, .inl (cI, 200, .inl (fun _ => 0))), (q_7, .inl (cI, 200, .inl (fun _ => 0))), (q_8, .inl (cI, 200, .inl (fun _ => 0)))] := hDn
  have hS := hSn
  clear hPn hDn hSn
  refine lv_aload_n hx hb dX1_init_72 rfl (lv_at hl 0 rfl) ?_
  refine lv_sipush (v := 200) hx hb dX1_init_73 (by decide) ?_
  refine p_newint hx hb (hts (.arrayClass .int) (List.mem_of_getElem? (i := 8) rfl)) hK hP hD hS hA (n := 200) (N := 200) (by decide) (by decide) (by decide) (Nat.le_of_ble_eq_true rfl) (Nat.le_of_ble_eq_true rfl) dX1_init_76 (fun q_9 H hPn hDn hSn => ?_)
  clear hP hD hS
  have hP : va_P (dC, dI) vwCl [(o, .inr (1, [.null, .null, .ref q_1, .ref q_3, .ref q_4, .ref q_5, .null, .null, .null, .ref q_6, .ref q_7, .ref q_8, .null, .int 0, .int 0, .int 0, .int 0, .int 0, .int 0, .int 0])), (q_1, .inr (5, [.ref ar_2, .int 0])), (ar_2, .inl (cI, 800, .inl (fun _ => 0))), (q_3, .inl (cI, 801, .inl (fun _ => 0))), (q_4, .inl (cI, 801, .inl (fun _ => 0))), (q_5, .inl (cI, 801, .inl (fun _ => 0))), (q_6, .inl (cI, 200, .inl (fun _ => 0))), (q_7, .inl (cI, 200, .inl (fun _ => 0))), (q_8, .inl (cI, 200, .inl (fun _ => 0))), (q_9, .inl (cI, 200, .inl (fun _ => 0)))] H := hPn
  have hD : va_D A [(o, .inr (1, [.null, .null, .ref q_1, .ref q_3, .ref q_4, .ref q_5, .null, .null, .null, .ref q_6, .ref q_7, .ref q_8, .null, .int 0, .int 0, .int 0, .int 0, .int 0, .int 0, .int 0])), (q_1, .inr (5, [.ref ar_2, .int 0])), (ar_2, .inl (cI, 800, .inl (fun _ => 0))), (q_3, .inl (cI, 801, .inl (fun _ => 0))), (q_4, .inl (cI, 801, .inl (fun _ => 0))), (q_5, .inl (cI, 801, .inl (fun _ => 0))), (q_6, .inl (cI, 200, .inl (fun _ => 0))), (q_7, .inl (cI, 200, .inl (fun _ => 0))), (q_8, .inl (cI, 200, .inl (fun _ => 0))), (q_9, .inl (cI, 200, .inl (fun _ => 0)))] := hDn
  have hS := hSn
  clear hPn hDn hSn
  refine W.widen (k := 9) (n := 4005) (Nat.le_of_ble_eq_true rfl) (Nat.le_of_ble_eq_true rfl) ?_
  refine va_putF (D := (dC, dI)) (ci := 1) (v := .ref q_9) (ty := .array .int) (C := RX1) (T := TX1) (N := 20) hx hb hts in_X1 tyX1 tyX1_ok nmX1 hown hK hP hD hS 0 rfl rfl 12 (by decide) (hts (.fieldLink RX1 39 "TextMender$Choices" "lengthOf" "[I") (List.mem_of_getElem? (i := 15) rfl)) (fun _ h9 => h9) rfl hin rfl (tyX1_ok 12 (Nat.le_of_ble_eq_true rfl)) rfl rfl (Nat.le_of_ble_eq_true rfl) dX1_init_78 (fun H locs hPn hDn hSn => ?_)
  clear hP hD hS
  have hP : va_P (dC, dI) vwCl [(o, .inr (1, [.null, .null, .ref q_1, .ref q_3, .ref q_4, .ref q_5, .null, .null, .null, .ref q_6, .ref q_7, .ref q_8, .ref q_9, .int 0, .int 0, .int 0, .int 0, .int 0, .int 0, .int 0])), (q_1, .inr (5, [.ref ar_2, .int 0])), (ar_2, .inl (cI, 800, .inl (fun _ => 0))), (q_3, .inl (cI, 801, .inl (fun _ => 0))), (q_4, .inl (cI, 801, .inl (fun _ => 0))), (q_5, .inl (cI, 801, .inl (fun _ => 0))), (q_6, .inl (cI, 200, .inl (fun _ => 0))), (q_7, .inl (cI, 200, .inl (fun _ => 0))), (q_8, .inl (cI, 200, .inl (fun _ => 0))), (q_9, .inl (cI, 200, .inl (fun _ => 0)))] H := hPn
  have hD : va_D A [(o, .inr (1, [.null, .null, .ref q_1, .ref q_3, .ref q_4, .ref q_5, .null, .null, .null, .ref q_6, .ref q_7, .ref q_8, .ref q_9, .int 0, .int 0, .int 0, .int 0, .int 0, .int 0, .int 0])), (q_1, .inr (5, [.ref ar_2, .int 0])), (ar_2, .inl (cI, 800, .inl (fun _ => 0))), (q_3, .inl (cI, 801, .inl (fun _ => 0))), (q_4, .inl (cI, 801, .inl (fun _ => 0))), (q_5, .inl (cI, 801, .inl (fun _ => 0))), (q_6, .inl (cI, 200, .inl (fun _ => 0))), (q_7, .inl (cI, 200, .inl (fun _ => 0))), (q_8, .inl (cI, 200, .inl (fun _ => 0))), (q_9, .inl (cI, 200, .inl (fun _ => 0)))] := hDn
  have hS := hSn
  clear hPn hDn hSn
  refine lv_aload_n hx hb dX1_init_81 rfl (lv_at hl 0 rfl) ?_
  refine lv_aload_n hx hb dX1_init_82 rfl (lv_at hl 1 rfl) ?_
  refine va_putF (D := (dC, dI)) (ci := 1) (v := .ref oC) (ty := .object "TextMender$Codes") (C := RX1) (T := TX1) (N := 20) hx hb hts in_X1 tyX1 tyX1_ok nmX1 hown hK hP hD hS 0 rfl rfl 0 (by decide) (hts (.fieldLink RX1 42 "TextMender$Choices" "codes" "LTextMender$Codes;") (List.mem_of_getElem? (i := 16) rfl)) (fun _ h9 => h9) rfl hin rfl (tyX1_ok 0 (Nat.le_of_ble_eq_true rfl)) rfl rfl (Nat.le_of_ble_eq_true rfl) dX1_init_83 (fun H locs hPn hDn hSn => ?_)
  clear hP hD hS
  have hP : va_P (dC, dI) vwCl [(o, .inr (1, [.ref oC, .null, .ref q_1, .ref q_3, .ref q_4, .ref q_5, .null, .null, .null, .ref q_6, .ref q_7, .ref q_8, .ref q_9, .int 0, .int 0, .int 0, .int 0, .int 0, .int 0, .int 0])), (q_1, .inr (5, [.ref ar_2, .int 0])), (ar_2, .inl (cI, 800, .inl (fun _ => 0))), (q_3, .inl (cI, 801, .inl (fun _ => 0))), (q_4, .inl (cI, 801, .inl (fun _ => 0))), (q_5, .inl (cI, 801, .inl (fun _ => 0))), (q_6, .inl (cI, 200, .inl (fun _ => 0))), (q_7, .inl (cI, 200, .inl (fun _ => 0))), (q_8, .inl (cI, 200, .inl (fun _ => 0))), (q_9, .inl (cI, 200, .inl (fun _ => 0)))] H := hPn
  have hD : va_D A [(o, .inr (1, [.ref oC, .null, .ref q_1, .ref q_3, .ref q_4, .ref q_5, .null, .null, .null, .ref q_6, .ref q_7, .ref q_8, .ref q_9, .int 0, .int 0, .int 0, .int 0, .int 0, .int 0, .int 0])), (q_1, .inr (5, [.ref ar_2, .int 0])), (ar_2, .inl (cI, 800, .inl (fun _ => 0))), (q_3, .inl (cI, 801, .inl (fun _ => 0))), (q_4, .inl (cI, 801, .inl (fun _ => 0))), (q_5, .inl (cI, 801, .inl (fun _ => 0))), (q_6, .inl (cI, 200, .inl (fun _ => 0))), (q_7, .inl (cI, 200, .inl (fun _ => 0))), (q_8, .inl (cI, 200, .inl (fun _ => 0))), (q_9, .inl (cI, 200, .inl (fun _ => 0)))] := hDn
  have hS := hSn
  clear hPn hDn hSn
  refine lv_aload_n hx hb dX1_init_86 rfl (lv_at hl 0 rfl) ?_
  refine lv_aload_n hx hb dX1_init_87 rfl (lv_at hl 2 rfl) ?_
  refine va_putF (D := (dC, dI)) (ci := 1) (v := .ref oK) (ty := .object "TextMender$Costs") (C := RX1) (T := TX1) (N := 20) hx hb hts in_X1 tyX1 tyX1_ok nmX1 hown hK hP hD hS 0 rfl rfl 1 (by decide) (hts (.fieldLink RX1 46 "TextMender$Choices" "costs" "LTextMender$Costs;") (List.mem_of_getElem? (i := 17) rfl)) (fun _ h9 => h9) rfl hin rfl (tyX1_ok 1 (Nat.le_of_ble_eq_true rfl)) rfl rfl (Nat.le_of_ble_eq_true rfl) dX1_init_88 (fun H locs hPn hDn hSn => ?_)
  clear hP hD hS
  have hP : va_P (dC, dI) vwCl [(o, .inr (1, [.ref oC, .ref oK, .ref q_1, .ref q_3, .ref q_4, .ref q_5, .null, .null, .null, .ref q_6, .ref q_7, .ref q_8, .ref q_9, .int 0, .int 0, .int 0, .int 0, .int 0, .int 0, .int 0])), (q_1, .inr (5, [.ref ar_2, .int 0])), (ar_2, .inl (cI, 800, .inl (fun _ => 0))), (q_3, .inl (cI, 801, .inl (fun _ => 0))), (q_4, .inl (cI, 801, .inl (fun _ => 0))), (q_5, .inl (cI, 801, .inl (fun _ => 0))), (q_6, .inl (cI, 200, .inl (fun _ => 0))), (q_7, .inl (cI, 200, .inl (fun _ => 0))), (q_8, .inl (cI, 200, .inl (fun _ => 0))), (q_9, .inl (cI, 200, .inl (fun _ => 0)))] H := hPn
  have hD : va_D A [(o, .inr (1, [.ref oC, .ref oK, .ref q_1, .ref q_3, .ref q_4, .ref q_5, .null, .null, .null, .ref q_6, .ref q_7, .ref q_8, .ref q_9, .int 0, .int 0, .int 0, .int 0, .int 0, .int 0, .int 0])), (q_1, .inr (5, [.ref ar_2, .int 0])), (ar_2, .inl (cI, 800, .inl (fun _ => 0))), (q_3, .inl (cI, 801, .inl (fun _ => 0))), (q_4, .inl (cI, 801, .inl (fun _ => 0))), (q_5, .inl (cI, 801, .inl (fun _ => 0))), (q_6, .inl (cI, 200, .inl (fun _ => 0))), (q_7, .inl (cI, 200, .inl (fun _ => 0))), (q_8, .inl (cI, 200, .inl (fun _ => 0))), (q_9, .inl (cI, 200, .inl (fun _ => 0)))] := hDn
  have hS := hSn
  clear hPn hDn hSn
  refine lv_aload_n hx hb dX1_init_91 rfl (lv_at hl 0 rfl) ?_
  refine va_new (ci := 8) (fs := [.null, .null, .int 0, .int 0, .int 0, .int 0]) (C := RX8) (T := TX8) (N := 6) hx hb hts in_X8 tyX8 tyX8_ok hown (hts (.classLink RX1 50 RX8) (List.mem_of_getElem? (i := 18) rfl)) (hts (.instantiable RX8 6) (List.mem_of_getElem? (i := 19) rfl)) (hts (.initialized RX8) (List.mem_of_getElem? (i := 20) rfl)) hK hP hD hS hA rfl (p_fsX8) (Nat.le_of_ble_eq_true rfl) (Nat.le_of_ble_eq_true rfl) dX1_init_92 (fun q_10 H hPn hDn hSn => ?_)
  clear hP hD hS
  have hP : va_P (dC, dI) vwCl [(o, .inr (1, [.ref oC, .ref oK, .ref q_1, .ref q_3, .ref q_4, .ref q_5, .null, .null, .null, .ref q_6, .ref q_7, .ref q_8, .ref q_9, .int 0, .int 0, .int 0, .int 0, .int 0, .int 0, .int 0])), (q_1, .inr (5, [.ref ar_2, .int 0])), (ar_2, .inl (cI, 800, .inl (fun _ => 0))), (q_3, .inl (cI, 801, .inl (fun _ => 0))), (q_4, .inl (cI, 801, .inl (fun _ => 0))), (q_5, .inl (cI, 801, .inl (fun _ => 0))), (q_6, .inl (cI, 200, .inl (fun _ => 0))), (q_7, .inl (cI, 200, .inl (fun _ => 0))), (q_8, .inl (cI, 200, .inl (fun _ => 0))), (q_9, .inl (cI, 200, .inl (fun _ => 0))), (q_10, .inr (8, [.null, .null, .int 0, .int 0, .int 0, .int 0]))] H := hPn
  have hD : va_D A [(o, .inr (1, [.ref oC, .ref oK, .ref q_1, .ref q_3, .ref q_4, .ref q_5, .null, .null, .null, .ref q_6, .ref q_7, .ref q_8, .ref q_9, .int 0, .int 0, .int 0, .int 0, .int 0, .int 0, .int 0])), (q_1, .inr (5, [.ref ar_2, .int 0])), (ar_2, .inl (cI, 800, .inl (fun _ => 0))), (q_3, .inl (cI, 801, .inl (fun _ => 0))), (q_4, .inl (cI, 801, .inl (fun _ => 0))), (q_5, .inl (cI, 801, .inl (fun _ => 0))), (q_6, .inl (cI, 200, .inl (fun _ => 0))), (q_7, .inl (cI, 200, .inl (fun _ => 0))), (q_8, .inl (cI, 200, .inl (fun _ => 0))), (q_9, .inl (cI, 200, .inl (fun _ => 0))), (q_10, .inr (8, [.null, .null, .int 0, .int 0, .int 0, .int 0]))] := hDn
  have hS := hSn
  clear hPn hDn hSn
  refine W.widen (k := 10) (n := 4011) (Nat.le_of_ble_eq_true rfl) (Nat.le_of_ble_eq_true rfl) ?_
  refine lv_dup hx hb dX1_init_95 rfl ?_
  refine lv_aload_n hx hb dX1_init_96 rfl (lv_at hl 1 rfl) ?_
  refine lv_aload_n hx hb dX1_init_97 rfl (lv_at hl 2 rfl) ?_
  have hPc := hP.sub (ws' := [(q_10, .inr (8, [.null, .null, .int 0, .int 0, .int 0, .int 0]))]) [10] rfl
  have hDc := hD.sub (ws' := [(q_10, .inr (8, [.null, .null, .int 0, .int 0, .int 0, .int 0]))]) [10] (by decide +kernel) rfl
  have hFc := va_free (wc := [(q_10, .inr (8, [.null, .null, .int 0, .int 0, .int 0, .int 0]))]) hD hS hA [10] rfl
  refine va_callv (va_runI (As := [.ref oC, .ref oK]) (rest := [.ref q_10, .ref o]) ⟨hx, hb, hml, hown, hts⟩ (k_X8_init l dC dI cI cS H.size q_10 oC oK ) (cwI 2 hts gX1_init_X8_init rfl rfl rfl (hts (.initialized RX8) (List.mem_of_getElem? (i := 20) rfl)) (hts (.methodLink RX1 52 yX8_init) (List.mem_of_getElem? (i := 33) rfl)) (hts (.instanceMethod yX8_init) (List.mem_of_getElem? (i := 34) rfl)) rfl (by decide +kernel) ⟨Nat.le_of_ble_eq_true rfl, Nat.le_of_ble_eq_true rfl⟩) ⟨fun a U g mk q => by obtain ⟨q0, q1, qP, qK, qD⟩ := q; exact ⟨q0, q1, qP, va_K.moved (u := U) (U := U.calling g mk a) (Vm.Alike.refl U.vm) qK, qD⟩, fun U hU hW => ⟨rfl, by rw [hU], by rw [hU]; exact hPc, va_K.moved hW.alike hK, hDc.weaken (fun _ _ _ _ => trivial)⟩⟩ rfl rfl hl.1 rfl (lv_room (Nat.le_of_ble_eq_true rfl)) dX1_init_98 ⟨Nat.le_of_ble_eq_true rfl, Nat.le_of_ble_eq_true rfl⟩) hS (fun q _ h => hFc q h) hFc (fun u t H1 locs ht hvm hw hB hz1 hk1 hSn => ?_)
  refine And.elim (fun hP1 hD1 => ?_) hB
  clear hB
  rw [ht] at hP1
  obtain ⟨hPn, hDn⟩ := va_join (wr := [(o, .inr (1, [.ref oC, .ref oK, .ref q_1, .ref q_3, .ref q_4, .ref q_5, .null, .null, .null, .ref q_6, .ref q_7, .ref q_8, .ref q_9, .int 0, .int 0, .int 0, .int 0, .int 0, .int 0, .int 0])), (q_1, .inr (5, [.ref ar_2, .int 0])), (ar_2, .inl (cI, 800, .inl (fun _ => 0))), (q_3, .inl (cI, 801, .inl (fun _ => 0))), (q_4, .inl (cI, 801, .inl (fun _ => 0))), (q_5, .inl (cI, 801, .inl (fun _ => 0))), (q_6, .inl (cI, 200, .inl (fun _ => 0))), (q_7, .inl (cI, 200, .inl (fun _ => 0))), (q_8, .inl (cI, 200, .inl (fun _ => 0))), (q_9, .inl (cI, 200, .inl (fun _ => 0)))]) (w1 := [(q_10, .inr (8, [.ref oC, .ref oK, .int 0, .int 32, .int 0, .int 0]))]) hP hD [10] [0, 1, 2, 3, 4, 5, 6, 7, 8, 9] rfl rfl (by decide +kernel) (by decide +kernel) hk1 hFc hP1 hD1
  clear hP hD hS hPc hDc hFc hk1 hz1 hvm ht hP1 hD1
  generalize H1 = H at hPn hSn ⊢
  have hP : va_P (dC, dI) vwCl [(o, .inr (1, [.ref oC, .ref oK, .ref q_1, .ref q_3, .ref q_4, .ref q_5, .null, .null, .null, .ref q_6, .ref q_7, .ref q_8, .ref q_9, .int 0, .int 0, .int 0, .int 0, .int 0, .int 0, .int 0])), (q_1, .inr (5, [.ref ar_2, .int 0])), (ar_2, .inl (cI, 800, .inl (fun _ => 0))), (q_3, .inl (cI, 801, .inl (fun _ => 0))), (q_4, .inl (cI, 801, .inl (fun _ => 0))), (q_5, .inl (cI, 801, .inl (fun _ => 0))), (q_6, .inl (cI, 200, .inl (fun _ => 0))), (q_7, .inl (cI, 200, .inl (fun _ => 0))), (q_8, .inl (cI, 200, .inl (fun _ => 0))), (q_9, .inl (cI, 200, .inl (fun _ => 0))), (q_10, .inr (8, [.ref oC, .ref oK, .int 0, .int 32, .int 0, .int 0]))] H := hPn
  have hD : va_D A [(o, .inr (1, [.ref oC, .ref oK, .ref q_1, .ref q_3, .ref q_4, .ref q_5, .null, .null, .null, .ref q_6, .ref q_7, .ref q_8, .ref q_9, .int 0, .int 0, .int 0, .int 0, .int 0, .int 0, .int 0])), (q_1, .inr (5, [.ref ar_2, .int 0])), (ar_2, .inl (cI, 800, .inl (fun _ => 0))), (q_3, .inl (cI, 801, .inl (fun _ => 0))), (q_4, .inl (cI, 801, .inl (fun _ => 0))), (q_5, .inl (cI, 801, .inl (fun _ => 0))), (q_6, .inl (cI, 200, .inl (fun _ => 0))), (q_7, .inl (cI, 200, .inl (fun _ => 0))), (q_8, .inl (cI, 200, .inl (fun _ => 0))), (q_9, .inl (cI, 200, .inl (fun _ => 0))), (q_10, .inr (8, [.ref oC, .ref oK, .int 0, .int 32, .int 0, .int 0]))] := hDn
  have hS := hSn
  clear hPn hDn hSn
  refine va_putF (D := (dC, dI)) (ci := 1) (v := .ref q_10) (ty := .object "TextMender$Reading") (C := RX1) (T := TX1) (N := 20) hx hb hts in_X1 tyX1 tyX1_ok nmX1 hown hK hP hD hS 0 rfl rfl 6 (by decide) (hts (.fieldLink RX1 55 "TextMender$Choices" "head" "LTextMender$Reading;") (List.mem_of_getElem? (i := 21) rfl)) (fun _ h9 => h9) rfl hin rfl (tyX1_ok 6 (Nat.le_of_ble_eq_true rfl)) rfl rfl (Nat.le_of_ble_eq_true rfl) dX1_init_101 (fun H locs hPn hDn hSn => ?_)
  clear hP hD hS
  have hP : va_P (dC, dI) vwCl [(o, .inr (1, [.ref oC, .ref oK, .ref q_1, .ref q_3, .ref q_4, .ref q_5, .ref q_10, .null, .null, .ref q_6, .ref q_7, .ref q_8, .ref q_9, .int 0, .int 0, .int 0, .int 0, .int 0, .int 0, .int 0])), (q_1, .inr (5, [.ref ar_2, .int 0])), (ar_2, .inl (cI, 800, .inl (fun _ => 0))), (q_3, .inl (cI, 801, .inl (fun _ => 0))), (q_4, .inl (cI, 801, .inl (fun _ => 0))), (q_5, .inl (cI, 801, .inl (fun _ => 0))), (q_6, .inl (cI, 200, .inl (fun _ => 0))), (q_7, .inl (cI, 200, .inl (fun _ => 0))), (q_8, .inl (cI, 200, .inl (fun _ => 0))), (q_9, .inl (cI, 200, .inl (fun _ => 0))), (q_10, .inr (8, [.ref oC, .ref oK, .int 0, .int 32, .int 0, .int 0]))] H := hPn
  have hD : va_D A [(o, .inr (1, [.ref oC, .ref oK, .ref q_1, .ref q_3, .ref q_4, .ref q_5, .ref q_10, .null, .null, .ref q_6, .ref q_7, .ref q_8, .ref q_9, .int 0, .int 0, .int 0, .int 0, .int 0, .int 0, .int 0])), (q_1, .inr (5, [.ref ar_2, .int 0])), (ar_2, .inl (cI, 800, .inl (fun _ => 0))), (q_3, .inl (cI, 801, .inl (fun _ => 0))), (q_4, .inl (cI, 801, .inl (fun _ => 0))), (q_5, .inl (cI, 801, .inl (fun _ => 0))), (q_6, .inl (cI, 200, .inl (fun _ => 0))), (q_7, .inl (cI, 200, .inl (fun _ => 0))), (q_8, .inl (cI, 200, .inl (fun _ => 0))), (q_9, .inl (cI, 200, .inl (fun _ => 0))), (q_10, .inr (8, [.ref oC, .ref oK, .int 0, .int 32, .int 0, .int 0]))] := hDn
  have hS := hSn
  clear hPn hDn hSn
  refine lv_aload_n hx hb dX1_init_104 rfl (lv_at hl 0 rfl) ?_
  refine va_new (ci := 8) (fs := [.null, .null, .int 0, .int 0, .int 0, .int 0]) (C := RX8) (T := TX8) (N := 6) hx hb hts in_X8 tyX8 tyX8_ok hown (hts (.classLink RX1 50 RX8) (List.mem_of_getElem? (i := 18) rfl)) (hts (.instantiable RX8 6) (List.mem_of_getElem? (i := 19) rfl)) (hts (.initialized RX8) (List.mem_of_getElem? (i := 20) rfl)) hK hP hD hS hA rfl (p_fsX8) (Nat.le_of_ble_eq_true rfl) (Nat.le_of_ble_eq_true rfl) dX1_init_105 (fun q_12 H hPn hDn hSn => ?_)
  clear hP hD hS
  have hP : va_P (dC, dI) vwCl [(o, .inr (1, [.ref oC, .ref oK, .ref q_1, .ref q_3, .ref q_4, .ref q_5, .ref q_10, .null, .null, .ref q_6, .ref q_7, .ref q_8, .ref q_9, .int 0, .int 0, .int 0, .int 0, .int 0, .int 0, .int 0])), (q_1, .inr (5, [.ref ar_2, .int 0])), (ar_2, .inl (cI, 800, .inl (fun _ => 0))), (q_3, .inl (cI, 801, .inl (fun _ => 0))), (q_4, .inl (cI, 801, .inl (fun _ => 0))), (q_5, .inl (cI, 801, .inl (fun _ => 0))), (q_6, .inl (cI, 200, .inl (fun _ => 0))), (q_7, .inl (cI, 200, .inl (fun _ => 0))), (q_8, .inl (cI, 200, .inl (fun _ => 0))), (q_9, .inl (cI, 200, .inl (fun _ => 0))), (q_10, .inr (8, [.ref oC, .ref oK, .int 0, .int 32, .int 0, .int 0])), (q_12, .inr (8, [.null, .null, .int 0, .int 0, .int 0, .int 0]))] H := hPn
  have hD : va_D A [(o, .inr (1, [.ref oC, .ref oK, .ref q_1, .ref q_3, .ref q_4, .ref q_5, .ref q_10, .null, .null, .ref q_6, .ref q_7, .ref q_8, .ref q_9, .int 0, .int 0, .int 0, .int 0, .int 0, .int 0, .int 0])), (q_1, .inr (5, [.ref ar_2, .int 0])), (ar_2, .inl (cI, 800, .inl (fun _ => 0))), (q_3, .inl (cI, 801, .inl (fun _ => 0))), (q_4, .inl (cI, 801, .inl (fun _ => 0))), (q_5, .inl (cI, 801, .inl (fun _ => 0))), (q_6, .inl (cI, 200, .inl (fun _ => 0))), (q_7, .inl (cI, 200, .inl (fun _ => 0))), (q_8, .inl (cI, 200, .inl (fun _ => 0))), (q_9, .inl (cI, 200, .inl (fun _ => 0))), (q_10, .inr (8, [.ref oC, .ref oK, .int 0, .int 32, .int 0, .int 0])), (q_12, .inr (8, [.null, .null, .int 0, .int 0, .int 0, .int 0]))] := hDn
  have hS := hSn
  clear hPn hDn hSn
  refine W.widen (k := 11) (n := 4017) (Nat.le_of_ble_eq_true rfl) (Nat.le_of_ble_eq_true rfl) ?_
  refine lv_dup hx hb dX1_init_108 rfl ?_
  refine lv_aload_n hx hb dX1_init_109 rfl (lv_at hl 1 rfl) ?_
  refine lv_aload_n hx hb dX1_init_110 rfl (lv_at hl 2 rfl) ?_
  have hPc := hP.sub (ws' := [(q_12, .inr (8, [.null, .null, .int 0, .int 0, .int 0, .int 0]))]) [11] rfl
  have hDc := hD.sub (ws' := [(q_12, .inr (8, [.null, .null, .int 0, .int 0, .int 0, .int 0]))]) [11] (by decide +kernel) rfl
  have hFc := va_free (wc := [(q_12, .inr (8, [.null, .null, .int 0, .int 0, .int 0, .int 0]))]) hD hS hA [11] rfl
  refine va_callv (va_runI (As := [.ref oC, .ref oK]) (rest := [.ref q_12, .ref o]) ⟨hx, hb, hml, hown, hts⟩ (k_X8_init l dC dI cI cS H.size q_12 oC oK ) (cwI 2 hts gX1_init_X8_init rfl rfl rfl (hts (.initialized RX8) (List.mem_of_getElem? (i := 20) rfl)) (hts (.methodLink RX1 52 yX8_init) (List.mem_of_getElem? (i := 33) rfl)) (hts (.instanceMethod yX8_init) (List.mem_of_getElem? (i := 34) rfl)) rfl (by decide +kernel) ⟨Nat.le_of_ble_eq_true rfl, Nat.le_of_ble_eq_true rfl⟩) ⟨fun a U g mk q => by obtain ⟨q0, q1, qP, qK, qD⟩ := q; exact ⟨q0, q1, qP, va_K.moved (u := U) (U := U.calling g mk a) (Vm.Alike.refl U.vm) qK, qD⟩, fun U hU hW => ⟨rfl, by rw [hU], by rw [hU]; exact hPc, va_K.moved hW.alike hK, hDc.weaken (fun _ _ _ _ => trivial)⟩⟩ rfl rfl hl.1 rfl (lv_room (Nat.le_of_ble_eq_true rfl)) dX1_init_111 ⟨Nat.le_of_ble_eq_true rfl, Nat.le_of_ble_eq_true rfl⟩) hS (fun q _ h => hFc q h) hFc (fun u t H1 locs ht hvm hw hB hz1 hk1 hSn => ?_)
  refine And.elim (fun hP1 hD1 => ?_) hB
  clear hB
  rw [ht] at hP1
  obtain ⟨hPn, hDn⟩ := va_join (wr := [(o, .inr (1, [.ref oC, .ref oK, .ref q_1, .ref q_3, .ref q_4, .ref q_5, .ref q_10, .null, .null, .ref q_6, .ref q_7, .ref q_8, .ref q_9, .int 0, .int 0, .int 0, .int 0, .int 0, .int 0, .int 0])), (q_1, .inr (5, [.ref ar_2, .int 0])), (ar_2, .inl (cI, 800, .inl (fun _ => 0))), (q_3, .inl (cI, 801, .inl (fun _ => 0))), (q_4, .inl (cI, 801, .inl (fun _ => 0))), (q_5, .inl (cI, 801, .inl (fun _ => 0))), (q_6, .inl (cI, 200, .inl (fun _ => 0))), (q_7, .inl (cI, 200, .inl (fun _ => 0))), (q_8, .inl (cI, 200, .inl (fun _ => 0))), (q_9, .inl (cI, 200, .inl (fun _ => 0))), (q_10, .inr (8, [.ref oC, .ref oK, .int 0, .int 32, .int 0, .int 0]))]) (w1 := [(q_12, .inr (8, [.ref oC, .ref oK, .int 0, .int 32, .int 0, .int 0]))]) hP hD [11] [0, 1, 2, 3, 4, 5, 6, 7, 8, 9, 10] rfl rfl (by decide +kernel) (by decide +kernel) hk1 hFc hP1 hD1
  clear hP hD hS hPc hDc hFc hk1 hz1 hvm ht hP1 hD1
  generalize H1 = H at hPn hSn ⊢
  have hP : va_P (dC, dI) vwCl [(o, .inr (1, [.ref oC, .ref oK, .ref q_1, .ref q_3, .ref q_4, .ref q_5, .ref q_10, .null, .null, .ref q_6, .ref q_7, .ref q_8, .ref q_9, .int 0, .int 0, .int 0, .int 0, .int 0, .int 0, .int 0])), (q_1, .inr (5, [.ref ar_2, .int 0])), (ar_2, .inl (cI, 800, .inl (fun _ => 0))), (q_3, .inl (cI, 801, .inl (fun _ => 0))), (q_4, .inl (cI, 801, .inl (fun _ => 0))), (q_5, .inl (cI, 801, .inl (fun _ => 0))), (q_6, .inl (cI, 200, .inl (fun _ => 0))), (q_7, .inl (cI, 200, .inl (fun _ => 0))), (q_8, .inl (cI, 200, .inl (fun _ => 0))), (q_9, .inl (cI, 200, .inl (fun _ => 0))), (q_10, .inr (8, [.ref oC, .ref oK, .int 0, .int 32, .int 0, .int 0])), (q_12, .inr (8, [.ref oC, .ref oK, .int 0, .int 32, .int 0, .int 0]))] H := hPn
  have hD : va_D A [(o, .inr (1, [.ref oC, .ref oK, .ref q_1, .ref q_3, .ref q_4, .ref q_5, .ref q_10, .null, .null, .ref q_6, .ref q_7, .ref q_8, .ref q_9, .int 0, .int 0, .int 0, .int 0, .int 0, .int 0, .int 0])), (q_1, .inr (5, [.ref ar_2, .int 0])), (ar_2, .inl (cI, 800, .inl (fun _ => 0))), (q_3, .inl (cI, 801, .inl (fun _ => 0))), (q_4, .inl (cI, 801, .inl (fun _ => 0))), (q_5, .inl (cI, 801, .inl (fun _ => 0))), (q_6, .inl (cI, 200, .inl (fun _ => 0))), (q_7, .inl (cI, 200, .inl (fun _ => 0))), (q_8, .inl (cI, 200, .inl (fun _ => 0))), (q_9, .inl (cI, 200, .inl (fun _ => 0))), (q_10, .inr (8, [.ref oC, .ref oK, .int 0, .int 32, .int 0, .int 0])), (q_12, .inr (8, [.ref oC, .ref oK, .int 0, .int 32, .int 0, .int 0]))] := hDn
  have hS := hSn
  clear hPn hDn hSn
  refine va_putF (D := (dC, dI)) (ci := 1) (v := .ref q_12) (ty := .object "TextMender$Reading") (C := RX1) (T := TX1) (N := 20) hx hb hts in_X1 tyX1 tyX1_ok nmX1 hown hK hP hD hS 0 rfl rfl 7 (by decide) (hts (.fieldLink RX1 59 "TextMender$Choices" "middle" "LTextMender$Reading;") (List.mem_of_getElem? (i := 22) rfl)) (fun _ h9 => h9) rfl hin rfl (tyX1_ok 7 (Nat.le_of_ble_eq_true rfl)) rfl rfl (Nat.le_of_ble_eq_true rfl) dX1_init_114 (fun H locs hPn hDn hSn => ?_)
  clear hP hD hS
  have hP : va_P (dC, dI) vwCl [(o, .inr (1, [.ref oC, .ref oK, .ref q_1, .ref q_3, .ref q_4, .ref q_5, .ref q_10, .ref q_12, .null, .ref q_6, .ref q_7, .ref q_8, .ref q_9, .int 0, .int 0, .int 0, .int 0, .int 0, .int 0, .int 0])), (q_1, .inr (5, [.ref ar_2, .int 0])), (ar_2, .inl (cI, 800, .inl (fun _ => 0))), (q_3, .inl (cI, 801, .inl (fun _ => 0))), (q_4, .inl (cI, 801, .inl (fun _ => 0))), (q_5, .inl (cI, 801, .inl (fun _ => 0))), (q_6, .inl (cI, 200, .inl (fun _ => 0))), (q_7, .inl (cI, 200, .inl (fun _ => 0))), (q_8, .inl (cI, 200, .inl (fun _ => 0))), (q_9, .inl (cI, 200, .inl (fun _ => 0))), (q_10, .inr (8, [.ref oC, .ref oK, .int 0, .int 32, .int 0, .int 0])), (q_12, .inr (8, [.ref oC, .ref oK, .int 0, .int 32, .int 0, .int 0]))] H := hPn
  have hD : va_D A [(o, .inr (1, [.ref oC, .ref oK, .ref q_1, .ref q_3, .ref q_4, .ref q_5, .ref q_10, .ref q_12, .null, .ref q_6, .ref q_7, .ref q_8, .ref q_9, .int 0, .int 0, .int 0, .int 0, .int 0, .int 0, .int 0])), (q_1, .inr (5, [.ref ar_2, .int 0])), (ar_2, .inl (cI, 800, .inl (fun _ => 0))), (q_3, .inl (cI, 801, .inl (fun _ => 0))), (q_4, .inl (cI, 801, .inl (fun _ => 0))), (q_5, .inl (cI, 801, .inl (fun _ => 0))), (q_6, .inl (cI, 200, .inl (fun _ => 0))), (q_7, .inl (cI, 200, .inl (fun _ => 0))), (q_8, .inl (cI, 200, .inl (fun _ => 0))), (q_9, .inl (cI, 200, .inl (fun _ => 0))), (q_10, .inr (8, [.ref oC, .ref oK, .int 0, .int 32, .int 0, .int 0])), (q_12, .inr (8, [.ref oC, .ref oK, .int 0, .int 32, .int 0, .int 0]))] := hDn
  have hS := hSn
  clear hPn hDn hSn
  refine lv_aload_n hx hb dX1_init_117 rfl (lv_at hl 0 rfl) ?_
  refine va_new (ci := 8) (fs := [.null, .null, .int 0, .int 0, .int 0, .int 0]) (C := RX8) (T := TX8) (N := 6) hx hb hts in_X8 tyX8 tyX8_ok hown (hts (.classLink RX1 50 RX8) (List.mem_of_getElem? (i := 18) rfl)) (hts (.instantiable RX8 6) (List.mem_of_getElem? (i := 19) rfl)) (hts (.initialized RX8) (List.mem_of_getElem? (i := 20) rfl)) hK hP hD hS hA rfl (p_fsX8) (Nat.le_of_ble_eq_true rfl) (Nat.le_of_ble_eq_true rfl) dX1_init_118 (fun q_14 H hPn hDn hSn => ?_)
  clear hP hD hS
  have hP : va_P (dC, dI) vwCl [(o, .inr (1, [.ref oC, .ref oK, .ref q_1, .ref q_3, .ref q_4, .ref q_5, .ref q_10, .ref q_12, .null, .ref q_6, .ref q_7, .ref q_8, .ref q_9, .int 0, .int 0, .int 0, .int 0, .int 0, .int 0, .int 0])), (q_1, .inr (5, [.ref ar_2, .int 0])), (ar_2, .inl (cI, 800, .inl (fun _ => 0))), (q_3, .inl (cI, 801, .inl (fun _ => 0))), (q_4, .inl (cI, 801, .inl (fun _ => 0))), (q_5, .inl (cI, 801, .inl (fun _ => 0))), (q_6, .inl (cI, 200, .inl (fun _ => 0))), (q_7, .inl (cI, 200, .inl (fun _ => 0))), (q_8, .inl (cI, 200, .inl (fun _ => 0))), (q_9, .inl (cI, 200, .inl (fun _ => 0))), (q_10, .inr (8, [.ref oC, .ref oK, .int 0, .int 32, .int 0, .int 0])), (q_12, .inr (8, [.ref oC, .ref oK, .int 0, .int 32, .int 0, .int 0])), (q_14, .inr (8, [.null, .null, .int 0, .int 0, .int 0, .int 0]))] H := hPn
  have hD : va_D A [(o, .inr (1, [.ref oC, .ref oK, .ref q_1, .ref q_3, .ref q_4, .ref q_5, .ref q_10, .ref q_12, .null, .ref q_6, .ref q_7, .ref q_8, .ref q_9, .int 0, .int 0, .int 0, .int 0, .int 0, .int 0, .int 0])), (q_1, .inr (5, [.ref ar_2, .int 0])), (ar_2, .inl (cI, 800, .inl (fun _ => 0))), (q_3, .inl (cI, 801, .inl (fun _ => 0))), (q_4, .inl (cI, 801, .inl (fun _ => 0))), (q_5, .inl (cI, 801, .inl (fun _ => 0))), (q_6, .inl (cI, 200, .inl (fun _ => 0))), (q_7, .inl (cI, 200, .inl (fun _ => 0))), (q_8, .inl (cI, 200, .inl (fun _ => 0))), (q_9, .inl (cI, 200, .inl (fun _ => 0))), (q_10, .inr (8, [.ref oC, .ref oK, .int 0, .int 32, .int 0, .int 0])), (q_12, .inr (8, [.ref oC, .ref oK, .int 0, .int 32, .int 0, .int 0])), (q_14, .inr (8, [.null, .null, .int 0, .int 0, .int 0, .int 0]))] := hDn
  have hS := hSn
  clear hPn hDn hSn
  refine W.widen (k := 12) (n := 4023) (Nat.le_of_ble_eq_true rfl) (Nat.le_of_ble_eq_true rfl) ?_
  refine lv_dup hx hb dX1_init_121 rfl ?_
  refine lv_aload_n hx hb dX1_init_122 rfl (lv_at hl 1 rfl) ?_
  refine lv_aload_n hx hb dX1_init_123 rfl (lv_at hl 2 rfl) ?_
  have hPc := hP.sub (ws' := [(q_14, .inr (8, [.null, .null, .int 0, .int 0, .int 0, .int 0]))]) [12] rfl
  have hDc := hD.sub (ws' := [(q_14, .inr (8, [.null, .null, .int 0, .int 0, .int 0, .int 0]))]) [12] (by decide +kernel) rfl
  have hFc := va_free (wc := [(q_14, .inr (8, [.null, .null, .int 0, .int 0, .int 0, .int 0]))]) hD hS hA [12] rfl
  refine va_callv (va_runI (As := [.ref oC, .ref oK]) (rest := [.ref q_14, .ref o]) ⟨hx, hb, hml, hown, hts⟩ (k_X8_init l dC dI cI cS H.size q_14 oC oK ) (cwI 2 hts gX1_init_X8_init rfl rfl rfl (hts (.initialized RX8) (List.mem_of_getElem? (i := 20) rfl)) (hts (.methodLink RX1 52 yX8_init) (List.mem_of_getElem? (i := 33) rfl)) (hts (.instanceMethod yX8_init) (List.mem_of_getElem? (i := 34) rfl)) rfl (by decide +kernel) ⟨Nat.le_of_ble_eq_true rfl, Nat.le_of_ble_eq_true rfl⟩) ⟨fun a U g mk q => by obtain ⟨q0, q1, qP, qK, qD⟩ := q; exact ⟨q0, q1, qP, va_K.moved (u := U) (U := U.calling g mk a) (Vm.Alike.refl U.vm) qK, qD⟩, fun U hU hW => ⟨rfl, by rw [hU], by rw [hU]; exact hPc, va_K.moved hW.alike hK, hDc.weaken (fun _ _ _ _ => trivial)⟩⟩ rfl rfl hl.1 rfl (lv_room (Nat.le_of_ble_eq_true rfl)) dX1_init_124 ⟨Nat.le_of_ble_eq_true rfl, Nat.le_of_ble_eq_true rfl⟩) hS (fun q _ h => hFc q h) hFc (fun u t H1 locs ht hvm hw hB hz1 hk1 hSn => ?_)
  refine And.elim (fun hP1 hD1 => ?_) hB
  clear hB
  rw [ht] at hP1
  obtain ⟨hPn, hDn⟩ := va_join (wr := [(o, .inr (1, [.ref oC, .ref oK, .ref q_1, .ref q_3, .ref q_4, .ref q_5, .ref q_10, .ref q_12, .null, .ref q_6, .ref q_7, .ref q_8, .ref q_9, .int 0, .int 0, .int 0, .int 0, .int 0, .int 0, .int 0])), (q_1, .inr (5, [.ref ar_2, .int 0])), (ar_2, .inl (cI, 800, .inl (fun _ => 0))), (q_3, .inl (cI, 801, .inl (fun _ => 0))), (q_4, .inl (cI, 801, .inl (fun _ => 0))), (q_5, .inl (cI, 801, .inl (fun _ => 0))), (q_6, .inl (cI, 200, .inl (fun _ => 0))), (q_7, .inl (cI, 200, .inl (fun _ => 0))), (q_8, .inl (cI, 200, .inl (fun _ => 0))), (q_9, .inl (cI, 200, .inl (fun _ => 0))), (q_10, .inr (8, [.ref oC, .ref oK, .int 0, .int 32, .int 0, .int 0])), (q_12, .inr (8, [.ref oC, .ref oK, .int 0, .int 32, .int 0, .int 0]))]) (w1 := [(q_14, .inr (8, [.ref oC, .ref oK, .int 0, .int 32, .int 0, .int 0]))]) hP hD [12] [0, 1, 2, 3, 4, 5, 6, 7, 8, 9, 10, 11] rfl rfl (by decide +kernel) (by decide +kernel) hk1 hFc hP1 hD1
  clear hP hD hS hPc hDc hFc hk1 hz1 hvm ht hP1 hD1
  generalize H1 = H at hPn hSn ⊢
  have hP : va_P (dC, dI) vwCl [(o, .inr (1, [.ref oC, .ref oK, .ref q_1, .ref q_3, .ref q_4, .ref q_5, .ref q_10, .ref q_12, .null, .ref q_6, .ref q_7, .ref q_8, .ref q_9, .int 0, .int 0, .int 0, .int 0, .int 0, .int 0, .int 0])), (q_1, .inr (5, [.ref ar_2, .int 0])), (ar_2, .inl (cI, 800, .inl (fun _ => 0))), (q_3, .inl (cI, 801, .inl (fun _ => 0))), (q_4, .inl (cI, 801, .inl (fun _ => 0))), (q_5, .inl (cI, 801, .inl (fun _ => 0))), (q_6, .inl (cI, 200, .inl (fun _ => 0))), (q_7, .inl (cI, 200, .inl (fun _ => 0))), (q_8, .inl (cI, 200, .inl (fun _ => 0))), (q_9, .inl (cI, 200, .inl (fun _ => 0))), (q_10, .inr (8, [.ref oC, .ref oK, .int 0, .int 32, .int 0, .int 0])), (q_12, .inr (8, [.ref oC, .ref oK, .int 0, .int 32, .int 0, .int 0])), (q_14, .inr (8, [.ref oC, .ref oK, .int 0, .int 32, .int 0, .int 0]))] H := hPn
  have hD : va_D A [(o, .inr (1, [.ref oC, .ref oK, .ref q_1, .ref q_3, .ref q_4, .ref q_5, .ref q_10, .ref q_12, .null, .ref q_6, .ref q_7, .ref q_8, .ref q_9, .int 0, .int 0, .int 0, .int 0, .int 0, .int 0, .int 0])), (q_1, .inr (5, [.ref ar_2, .int 0])), (ar_2, .inl (cI, 800, .inl (fun _ => 0))), (q_3, .inl (cI, 801, .inl (fun _ => 0))), (q_4, .inl (cI, 801, .inl (fun _ => 0))), (q_5, .inl (cI, 801, .inl (fun _ => 0))), (q_6, .inl (cI, 200, .inl (fun _ => 0))), (q_7, .inl (cI, 200, .inl (fun _ => 0))), (q_8, .inl (cI, 200, .inl (fun _ => 0))), (q_9, .inl (cI, 200, .inl (fun _ => 0))), (q_10, .inr (8, [.ref oC, .ref oK, .int 0, .int 32, .int 0, .int 0])), (q_12, .inr (8, [.ref oC, .ref oK, .int 0, .int 32, .int 0, .int 0])), (q_14, .inr (8, [.ref oC, .ref oK, .int 0, .int 32, .int 0, .int 0]))] := hDn
  have hS := hSn
  clear hPn hDn hSn
  refine va_putF (D := (dC, dI)) (ci := 1) (v := .ref q_14) (ty := .object "TextMender$Reading") (C := RX1) (T := TX1) (N := 20) hx hb hts in_X1 tyX1 tyX1_ok nmX1 hown hK hP hD hS 0 rfl rfl 8 (by decide) (hts (.fieldLink RX1 62 "TextMender$Choices" "whole" "LTextMender$Reading;") (List.mem_of_getElem? (i := 23) rfl)) (fun _ h9 => h9) rfl hin rfl (tyX1_ok 8 (Nat.le_of_ble_eq_true rfl)) rfl rfl (Nat.le_of_ble_eq_true rfl) dX1_init_127 (fun H locs hPn hDn hSn => ?_)
  clear hP hD hS
  have hP : va_P (dC, dI) vwCl [(o, .inr (1, [.ref oC, .ref oK, .ref q_1, .ref q_3, .ref q_4, .ref q_5, .ref q_10, .ref q_12, .ref q_14, .ref q_6, .ref q_7, .ref q_8, .ref q_9, .int 0, .int 0, .int 0, .int 0, .int 0, .int 0, .int 0])), (q_1, .inr (5, [.ref ar_2, .int 0])), (ar_2, .inl (cI, 800, .inl (fun _ => 0))), (q_3, .inl (cI, 801, .inl (fun _ => 0))), (q_4, .inl (cI, 801, .inl (fun _ => 0))), (q_5, .inl (cI, 801, .inl (fun _ => 0))), (q_6, .inl (cI, 200, .inl (fun _ => 0))), (q_7, .inl (cI, 200, .inl (fun _ => 0))), (q_8, .inl (cI, 200, .inl (fun _ => 0))), (q_9, .inl (cI, 200, .inl (fun _ => 0))), (q_10, .inr (8, [.ref oC, .ref oK, .int 0, .int 32, .int 0, .int 0])), (q_12, .inr (8, [.ref oC, .ref oK, .int 0, .int 32, .int 0, .int 0])), (q_14, .inr (8, [.ref oC, .ref oK, .int 0, .int 32, .int 0, .int 0]))] H := hPn
  have hD : va_D A [(o, .inr (1, [.ref oC, .ref oK, .ref q_1, .ref q_3, .ref q_4, .ref q_5, .ref q_10, .ref q_12, .ref q_14, .ref q_6, .ref q_7, .ref q_8, .ref q_9, .int 0, .int 0, .int 0, .int 0, .int 0, .int 0, .int 0])), (q_1, .inr (5, [.ref ar_2, .int 0])), (ar_2, .inl (cI, 800, .inl (fun _ => 0))), (q_3, .inl (cI, 801, .inl (fun _ => 0))), (q_4, .inl (cI, 801, .inl (fun _ => 0))), (q_5, .inl (cI, 801, .inl (fun _ => 0))), (q_6, .inl (cI, 200, .inl (fun _ => 0))), (q_7, .inl (cI, 200, .inl (fun _ => 0))), (q_8, .inl (cI, 200, .inl (fun _ => 0))), (q_9, .inl (cI, 200, .inl (fun _ => 0))), (q_10, .inr (8, [.ref oC, .ref oK, .int 0, .int 32, .int 0, .int 0])), (q_12, .inr (8, [.ref oC, .ref oK, .int 0, .int 32, .int 0, .int 0])), (q_14, .inr (8, [.ref oC, .ref oK, .int 0, .int 32, .int 0, .int 0]))] := hDn
  have hS := hSn
  clear hPn hDn hSn
  refine lv_aload_n hx hb dX1_init_130 rfl (lv_at hl 0 rfl) ?_
  refine lv_iconst (v := 0) hx hb dX1_init_131 (by decide) ?_
  refine va_put (D := (dC, dI)) (ci := 1) (v := .int 0) (ty := .int) (C := RX1) (T := TX1) (N := 20) hx hb hts in_X1 tyX1 tyX1_ok nmX1 hown hK hP hD hS 0 rfl rfl 13 (by decide) (hts (.fieldLink RX1 65 "TextMender$Choices" "kept" "I") (List.mem_of_getElem? (i := 24) rfl)) (fun _ h9 => h9) rfl (tyX1_ok 13 (Nat.le_of_ble_eq_true rfl)) rfl rfl (Nat.le_of_ble_eq_true rfl) dX1_init_132 (fun H locs hPn hDn hSn => ?_)
  clear hP hD hS
  have hP : va_P (dC, dI) vwCl [(o, .inr (1, [.ref oC, .ref oK, .ref q_1, .ref q_3, .ref q_4, .ref q_5, .ref q_10, .ref q_12, .ref q_14, .ref q_6, .ref q_7, .ref q_8, .ref q_9, .int 0, .int 0, .int 0, .int 0, .int 0, .int 0, .int 0])), (q_1, .inr (5, [.ref ar_2, .int 0])), (ar_2, .inl (cI, 800, .inl (fun _ => 0))), (q_3, .inl (cI, 801, .inl (fun _ => 0))), (q_4, .inl (cI, 801, .inl (fun _ => 0))), (q_5, .inl (cI, 801, .inl (fun _ => 0))), (q_6, .inl (cI, 200, .inl (fun _ => 0))), (q_7, .inl (cI, 200, .inl (fun _ => 0))), (q_8, .inl (cI, 200, .inl (fun _ => 0))), (q_9, .inl (cI, 200, .inl (fun _ => 0))), (q_10, .inr (8, [.ref oC, .ref oK, .int 0, .int 32, .int 0, .int 0])), (q_12, .inr (8, [.ref oC, .ref oK, .int 0, .int 32, .int 0, .int 0])), (q_14, .inr (8, [.ref oC, .ref oK, .int 0, .int 32, .int 0, .int 0]))] H := hPn
  have hD : va_D A [(o, .inr (1, [.ref oC, .ref oK, .ref q_1, .ref q_3, .ref q_4, .ref q_5, .ref q_10, .ref q_12, .ref q_14, .ref q_6, .ref q_7, .ref q_8, .ref q_9, .int 0, .int 0, .int 0, .int 0, .int 0, .int 0, .int 0])), (q_1, .inr (5, [.ref ar_2, .int 0])), (ar_2, .inl (cI, 800, .inl (fun _ => 0))), (q_3, .inl (cI, 801, .inl (fun _ => 0))), (q_4, .inl (cI, 801, .inl (fun _ => 0))), (q_5, .inl (cI, 801, .inl (fun _ => 0))), (q_6, .inl (cI, 200, .inl (fun _ => 0))), (q_7, .inl (cI, 200, .inl (fun _ => 0))), (q_8, .inl (cI, 200, .inl (fun _ => 0))), (q_9, .inl (cI, 200, .inl (fun _ => 0))), (q_10, .inr (8, [.ref oC, .ref oK, .int 0, .int 32, .int 0, .int 0])), (q_12, .inr (8, [.ref oC, .ref oK, .int 0, .int 32, .int 0, .int 0])), (q_14, .inr (8, [.ref oC, .ref oK, .int 0, .int 32, .int 0, .int 0]))] := hDn
  have hS := hSn
  clear hPn hDn hSn
  refine lv_aload_n hx hb dX1_init_135 rfl (lv_at hl 0 rfl) ?_
  refine lv_iconst (v := 0) hx hb dX1_init_136 (by decide) ?_
  refine va_put (D := (dC, dI)) (ci := 1) (v := .int 0) (ty := .int) (C := RX1) (T := TX1) (N := 20) hx hb hts in_X1 tyX1 tyX1_ok nmX1 hown hK hP hD hS 0 rfl rfl 14 (by decide) (hts (.fieldLink RX1 69 "TextMender$Choices" "total" "I") (List.mem_of_getElem? (i := 25) rfl)) (fun _ h9 => h9) rfl (tyX1_ok 14 (Nat.le_of_ble_eq_true rfl)) rfl rfl (Nat.le_of_ble_eq_true rfl) dX1_init_137 (fun H locs hPn hDn hSn => ?_)
  clear hP hD hS
  have hP : va_P (dC, dI) vwCl [(o, .inr (1, [.ref oC, .ref oK, .ref q_1, .ref q_3, .ref q_4, .ref q_5, .ref q_10, .ref q_12, .ref q_14, .ref q_6, .ref q_7, .ref q_8, .ref q_9, .int 0, .int 0, .int 0, .int 0, .int 0, .int 0, .int 0])), (q_1, .inr (5, [.ref ar_2, .int 0])), (ar_2, .inl (cI, 800, .inl (fun _ => 0))), (q_3, .inl (cI, 801, .inl (fun _ => 0))), (q_4, .inl (cI, 801, .inl (fun _ => 0))), (q_5, .inl (cI, 801, .inl (fun _ => 0))), (q_6, .inl (cI, 200, .inl (fun _ => 0))), (q_7, .inl (cI, 200, .inl (fun _ => 0))), (q_8, .inl (cI, 200, .inl (fun _ => 0))), (q_9, .inl (cI, 200, .inl (fun _ => 0))), (q_10, .inr (8, [.ref oC, .ref oK, .int 0, .int 32, .int 0, .int 0])), (q_12, .inr (8, [.ref oC, .ref oK, .int 0, .int 32, .int 0, .int 0])), (q_14, .inr (8, [.ref oC, .ref oK, .int 0, .int 32, .int 0, .int 0]))] H := hPn
  have hD : va_D A [(o, .inr (1, [.ref oC, .ref oK, .ref q_1, .ref q_3, .ref q_4, .ref q_5, .ref q_10, .ref q_12, .ref q_14, .ref q_6, .ref q_7, .ref q_8, .ref q_9, .int 0, .int 0, .int 0, .int 0, .int 0, .int 0, .int 0])), (q_1, .inr (5, [.ref ar_2, .int 0])), (ar_2, .inl (cI, 800, .inl (fun _ => 0))), (q_3, .inl (cI, 801, .inl (fun _ => 0))), (q_4, .inl (cI, 801, .inl (fun _ => 0))), (q_5, .inl (cI, 801, .inl (fun _ => 0))), (q_6, .inl (cI, 200, .inl (fun _ => 0))), (q_7, .inl (cI, 200, .inl (fun _ => 0))), (q_8, .inl (cI, 200, .inl (fun _ => 0))), (q_9, .inl (cI, 200, .inl (fun _ => 0))), (q_10, .inr (8, [.ref oC, .ref oK, .int 0, .int 32, .int 0, .int 0])), (q_12, .inr (8, [.ref oC, .ref oK, .int 0, .int 32, .int 0, .int 0])), (q_14, .inr (8, [.ref oC, .ref oK, .int 0, .int 32, .int 0, .int 0]))] := hDn
  have hS := hSn
  clear hPn hDn hSn
  refine lv_aload_n hx hb dX1_init_140 rfl (lv_at hl 0 rfl) ?_
  refine lv_iconst (v := 0) hx hb dX1_init_141 (by decide) ?_
  refine va_put (D := (dC, dI)) (ci := 1) (v := .int 0) (ty := .boolean) (C := RX1) (T := TX1) (N := 20) hx hb hts in_X1 tyX1 tyX1_ok nmX1 hown hK hP hD hS 0 rfl rfl 15 (by decide) (hts (.fieldLink RX1 72 "TextMender$Choices" "fresh" "Z") (List.mem_of_getElem? (i := 26) rfl)) (fun _ h9 => h9) rfl (tyX1_ok 15 (Nat.le_of_ble_eq_true rfl)) rfl rfl (Nat.le_of_ble_eq_true rfl) dX1_init_142 (fun H locs hPn hDn hSn => ?_)
  clear hP hD hS
  have hP : va_P (dC, dI) vwCl [(o, .inr (1, [.ref oC, .ref oK, .ref q_1, .ref q_3, .ref q_4, .ref q_5, .ref q_10, .ref q_12, .ref q_14, .ref q_6, .ref q_7, .ref q_8, .ref q_9, .int 0, .int 0, .int 0, .int 0, .int 0, .int 0, .int 0])), (q_1, .inr (5, [.ref ar_2, .int 0])), (ar_2, .inl (cI, 800, .inl (fun _ => 0))), (q_3, .inl (cI, 801, .inl (fun _ => 0))), (q_4, .inl (cI, 801, .inl (fun _ => 0))), (q_5, .inl (cI, 801, .inl (fun _ => 0))), (q_6, .inl (cI, 200, .inl (fun _ => 0))), (q_7, .inl (cI, 200, .inl (fun _ => 0))), (q_8, .inl (cI, 200, .inl (fun _ => 0))), (q_9, .inl (cI, 200, .inl (fun _ => 0))), (q_10, .inr (8, [.ref oC, .ref oK, .int 0, .int 32, .int 0, .int 0])), (q_12, .inr (8, [.ref oC, .ref oK, .int 0, .int 32, .int 0, .int 0])), (q_14, .inr (8, [.ref oC, .ref oK, .int 0, .int 32, .int 0, .int 0]))] H := hPn
  have hD : va_D A [(o, .inr (1, [.ref oC, .ref oK, .ref q_1, .ref q_3, .ref q_4, .ref q_5, .ref q_10, .ref q_12, .ref q_14, .ref q_6, .ref q_7, .ref q_8, .ref q_9, .int 0, .int 0, .int 0, .int 0, .int 0, .int 0, .int 0])), (q_1, .inr (5, [.ref ar_2, .int 0])), (ar_2, .inl (cI, 800, .inl (fun _ => 0))), (q_3, .inl (cI, 801, .inl (fun _ => 0))), (q_4, .inl (cI, 801, .inl (fun _ => 0))), (q_5, .inl (cI, 801, .inl (fun _ => 0))), (q_6, .inl (cI, 200, .inl (fun _ => 0))), (q_7, .inl (cI, 200, .inl (fun _ => 0))), (q_8, .inl (cI, 200, .inl (fun _ => 0))), (q_9, .inl (cI, 200, .inl (fun _ => 0))), (q_10, .inr (8, [.ref oC, .ref oK, .int 0, .int 32, .int 0, .int 0])), (q_12, .inr (8, [.ref oC, .ref oK, .int 0, .int 32, .int 0, .int 0])), (q_14, .inr (8, [.ref oC, .ref oK, .int 0, .int 32, .int 0, .int 0]))] := hDn
  have hS := hSn
  clear hPn hDn hSn
  refine lv_aload_n hx hb dX1_init_145 rfl (lv_at hl 0 rfl) ?_
  refine lv_iconst (v := (-1)) hx hb dX1_init_146 (by decide) ?_
  refine va_put (D := (dC, dI)) (ci := 1) (v := .int (-1)) (ty := .int) (C := RX1) (T := TX1) (N := 20) hx hb hts in_X1 tyX1 tyX1_ok nmX1 hown hK hP hD hS 0 rfl rfl 16 (by decide) (hts (.fieldLink RX1 76 "TextMender$Choices" "writtenIn" "I") (List.mem_of_getElem? (i := 27) rfl)) (fun _ h9 => h9) rfl (tyX1_ok 16 (Nat.le_of_ble_eq_true rfl)) rfl rfl (Nat.le_of_ble_eq_true rfl) dX1_init_147 (fun H locs hPn hDn hSn => ?_)
  clear hP hD hS
  have hP : va_P (dC, dI) vwCl [(o, .inr (1, [.ref oC, .ref oK, .ref q_1, .ref q_3, .ref q_4, .ref q_5, .ref q_10, .ref q_12, .ref q_14, .ref q_6, .ref q_7, .ref q_8, .ref q_9, .int 0, .int 0, .int 0, .int (-1), .int 0, .int 0, .int 0])), (q_1, .inr (5, [.ref ar_2, .int 0])), (ar_2, .inl (cI, 800, .inl (fun _ => 0))), (q_3, .inl (cI, 801, .inl (fun _ => 0))), (q_4, .inl (cI, 801, .inl (fun _ => 0))), (q_5, .inl (cI, 801, .inl (fun _ => 0))), (q_6, .inl (cI, 200, .inl (fun _ => 0))), (q_7, .inl (cI, 200, .inl (fun _ => 0))), (q_8, .inl (cI, 200, .inl (fun _ => 0))), (q_9, .inl (cI, 200, .inl (fun _ => 0))), (q_10, .inr (8, [.ref oC, .ref oK, .int 0, .int 32, .int 0, .int 0])), (q_12, .inr (8, [.ref oC, .ref oK, .int 0, .int 32, .int 0, .int 0])), (q_14, .inr (8, [.ref oC, .ref oK, .int 0, .int 32, .int 0, .int 0]))] H := hPn
  have hD : va_D A [(o, .inr (1, [.ref oC, .ref oK, .ref q_1, .ref q_3, .ref q_4, .ref q_5, .ref q_10, .ref q_12, .ref q_14, .ref q_6, .ref q_7, .ref q_8, .ref q_9, .int 0, .int 0, .int 0, .int (-1), .int 0, .int 0, .int 0])), (q_1, .inr (5, [.ref ar_2, .int 0])), (ar_2, .inl (cI, 800, .inl (fun _ => 0))), (q_3, .inl (cI, 801, .inl (fun _ => 0))), (q_4, .inl (cI, 801, .inl (fun _ => 0))), (q_5, .inl (cI, 801, .inl (fun _ => 0))), (q_6, .inl (cI, 200, .inl (fun _ => 0))), (q_7, .inl (cI, 200, .inl (fun _ => 0))), (q_8, .inl (cI, 200, .inl (fun _ => 0))), (q_9, .inl (cI, 200, .inl (fun _ => 0))), (q_10, .inr (8, [.ref oC, .ref oK, .int 0, .int 32, .int 0, .int 0])), (q_12, .inr (8, [.ref oC, .ref oK, .int 0, .int 32, .int 0, .int 0])), (q_14, .inr (8, [.ref oC, .ref oK, .int 0, .int 32, .int 0, .int 0]))] := hDn
  have hS := hSn
  clear hPn hDn hSn
  refine lv_aload_n hx hb dX1_init_150 rfl (lv_at hl 0 rfl) ?_
  refine lv_iconst (v := (-1)) hx hb dX1_init_151 (by decide) ?_
  refine va_put (D := (dC, dI)) (ci := 1) (v := .int (-1)) (ty := .int) (C := RX1) (T := TX1) (N := 20) hx hb hts in_X1 tyX1 tyX1_ok nmX1 hown hK hP hD hS 0 rfl rfl 17 (by decide) (hts (.fieldLink RX1 79 "TextMender$Choices" "readIn" "I") (List.mem_of_getElem? (i := 28) rfl)) (fun _ h9 => h9) rfl (tyX1_ok 17 (Nat.le_of_ble_eq_true rfl)) rfl rfl (Nat.le_of_ble_eq_true rfl) dX1_init_152 (fun H locs hPn hDn hSn => ?_)
  clear hP hD hS
  have hP : va_P (dC, dI) vwCl [(o, .inr (1, [.ref oC, .ref oK, .ref q_1, .ref q_3, .ref q_4, .ref q_5, .ref q_10, .ref q_12, .ref q_14, .ref q_6, .ref q_7, .ref q_8, .ref q_9, .int 0, .int 0, .int 0, .int (-1), .int (-1), .int 0, .int 0])), (q_1, .inr (5, [.ref ar_2, .int 0])), (ar_2, .inl (cI, 800, .inl (fun _ => 0))), (q_3, .inl (cI, 801, .inl (fun _ => 0))), (q_4, .inl (cI, 801, .inl (fun _ => 0))), (q_5, .inl (cI, 801, .inl (fun _ => 0))), (q_6, .inl (cI, 200, .inl (fun _ => 0))), (q_7, .inl (cI, 200, .inl (fun _ => 0))), (q_8, .inl (cI, 200, .inl (fun _ => 0))), (q_9, .inl (cI, 200, .inl (fun _ => 0))), (q_10, .inr (8, [.ref oC, .ref oK, .int 0, .int 32, .int 0, .int 0])), (q_12, .inr (8, [.ref oC, .ref oK, .int 0, .int 32, .int 0, .int 0])), (q_14, .inr (8, [.ref oC, .ref oK, .int 0, .int 32, .int 0, .int 0]))] H := hPn
  have hD : va_D A [(o, .inr (1, [.ref oC, .ref oK, .ref q_1, .ref q_3, .ref q_4, .ref q_5, .ref q_10, .ref q_12, .ref q_14, .ref q_6, .ref q_7, .ref q_8, .ref q_9, .int 0, .int 0, .int 0, .int (-1), .int (-1), .int 0, .int 0])), (q_1, .inr (5, [.ref ar_2, .int 0])), (ar_2, .inl (cI, 800, .inl (fun _ => 0))), (q_3, .inl (cI, 801, .inl (fun _ => 0))), (q_4, .inl (cI, 801, .inl (fun _ => 0))), (q_5, .inl (cI, 801, .inl (fun _ => 0))), (q_6, .inl (cI, 200, .inl (fun _ => 0))), (q_7, .inl (cI, 200, .inl (fun _ => 0))), (q_8, .inl (cI, 200, .inl (fun _ => 0))), (q_9, .inl (cI, 200, .inl (fun _ => 0))), (q_10, .inr (8, [.ref oC, .ref oK, .int 0, .int 32, .int 0, .int 0])), (q_12, .inr (8, [.ref oC, .ref oK, .int 0, .int 32, .int 0, .int 0])), (q_14, .inr (8, [.ref oC, .ref oK, .int 0, .int 32, .int 0, .int 0]))] := hDn
  have hS := hSn
  clear hPn hDn hSn
  refine lv_aload_n hx hb dX1_init_155 rfl (lv_at hl 0 rfl) ?_
  refine lv_iconst (v := (-1)) hx hb dX1_init_156 (by decide) ?_
  refine va_put (D := (dC, dI)) (ci := 1) (v := .int (-1)) (ty := .int) (C := RX1) (T := TX1) (N := 20) hx hb hts in_X1 tyX1 tyX1_ok nmX1 hown hK hP hD hS 0 rfl rfl 18 (by decide) (hts (.fieldLink RX1 82 "TextMender$Choices" "firstMark" "I") (List.mem_of_getElem? (i := 29) rfl)) (fun _ h9 => h9) rfl (tyX1_ok 18 (Nat.le_of_ble_eq_true rfl)) rfl rfl (Nat.le_of_ble_eq_true rfl) dX1_init_157 (fun H locs hPn hDn hSn => ?_)
  clear hP hD hS
  have hP : va_P (dC, dI) vwCl [(o, .inr (1, [.ref oC, .ref oK, .ref q_1, .ref q_3, .ref q_4, .ref q_5, .ref q_10, .ref q_12, .ref q_14, .ref q_6, .ref q_7, .ref q_8, .ref q_9, .int 0, .int 0, .int 0, .int (-1), .int (-1), .int (-1), .int 0])), (q_1, .inr (5, [.ref ar_2, .int 0])), (ar_2, .inl (cI, 800, .inl (fun _ => 0))), (q_3, .inl (cI, 801, .inl (fun _ => 0))), (q_4, .inl (cI, 801, .inl (fun _ => 0))), (q_5, .inl (cI, 801, .inl (fun _ => 0))), (q_6, .inl (cI, 200, .inl (fun _ => 0))), (q_7, .inl (cI, 200, .inl (fun _ => 0))), (q_8, .inl (cI, 200, .inl (fun _ => 0))), (q_9, .inl (cI, 200, .inl (fun _ => 0))), (q_10, .inr (8, [.ref oC, .ref oK, .int 0, .int 32, .int 0, .int 0])), (q_12, .inr (8, [.ref oC, .ref oK, .int 0, .int 32, .int 0, .int 0])), (q_14, .inr (8, [.ref oC, .ref oK, .int 0, .int 32, .int 0, .int 0]))] H := hPn
  have hD : va_D A [(o, .inr (1, [.ref oC, .ref oK, .ref q_1, .ref q_3, .ref q_4, .ref q_5, .ref q_10, .ref q_12, .ref q_14, .ref q_6, .ref q_7, .ref q_8, .ref q_9, .int 0, .int 0, .int 0, .int (-1), .int (-1), .int (-1), .int 0])), (q_1, .inr (5, [.ref ar_2, .int 0])), (ar_2, .inl (cI, 800, .inl (fun _ => 0))), (q_3, .inl (cI, 801, .inl (fun _ => 0))), (q_4, .inl (cI, 801, .inl (fun _ => 0))), (q_5, .inl (cI, 801, .inl (fun _ => 0))), (q_6, .inl (cI, 200, .inl (fun _ => 0))), (q_7, .inl (cI, 200, .inl (fun _ => 0))), (q_8, .inl (cI, 200, .inl (fun _ => 0))), (q_9, .inl (cI, 200, .inl (fun _ => 0))), (q_10, .inr (8, [.ref oC, .ref oK, .int 0, .int 32, .int 0, .int 0])), (q_12, .inr (8, [.ref oC, .ref oK, .int 0, .int 32, .int 0, .int 0])), (q_14, .inr (8, [.ref oC, .ref oK, .int 0, .int 32, .int 0, .int 0]))] := hDn
  have hS := hSn
  clear hPn hDn hSn
  refine lv_aload_n hx hb dX1_init_160 rfl (lv_at hl 0 rfl) ?_
  refine lv_iconst (v := (-1)) hx hb dX1_init_161 (by decide) ?_
  refine va_put (D := (dC, dI)) (ci := 1) (v := .int (-1)) (ty := .int) (C := RX1) (T := TX1) (N := 20) hx hb hts in_X1 tyX1 tyX1_ok nmX1 hown hK hP hD hS 0 rfl rfl 19 (by decide) (hts (.fieldLink RX1 85 "TextMender$Choices" "lastMark" "I") (List.mem_of_getElem? (i := 30) rfl)) (fun _ h9 => h9) rfl (tyX1_ok 19 (Nat.le_of_ble_eq_true rfl)) rfl rfl (Nat.le_of_ble_eq_true rfl) dX1_init_162 (fun H locs hPn hDn hSn => ?_)
  clear hP hD hS
  have hP : va_P (dC, dI) vwCl [(o, .inr (1, [.ref oC, .ref oK, .ref q_1, .ref q_3, .ref q_4, .ref q_5, .ref q_10, .ref q_12, .ref q_14, .ref q_6, .ref q_7, .ref q_8, .ref q_9, .int 0, .int 0, .int 0, .int (-1), .int (-1), .int (-1), .int (-1)])), (q_1, .inr (5, [.ref ar_2, .int 0])), (ar_2, .inl (cI, 800, .inl (fun _ => 0))), (q_3, .inl (cI, 801, .inl (fun _ => 0))), (q_4, .inl (cI, 801, .inl (fun _ => 0))), (q_5, .inl (cI, 801, .inl (fun _ => 0))), (q_6, .inl (cI, 200, .inl (fun _ => 0))), (q_7, .inl (cI, 200, .inl (fun _ => 0))), (q_8, .inl (cI, 200, .inl (fun _ => 0))), (q_9, .inl (cI, 200, .inl (fun _ => 0))), (q_10, .inr (8, [.ref oC, .ref oK, .int 0, .int 32, .int 0, .int 0])), (q_12, .inr (8, [.ref oC, .ref oK, .int 0, .int 32, .int 0, .int 0])), (q_14, .inr (8, [.ref oC, .ref oK, .int 0, .int 32, .int 0, .int 0]))] H := hPn
  have hD : va_D A [(o, .inr (1, [.ref oC, .ref oK, .ref q_1, .ref q_3, .ref q_4, .ref q_5, .ref q_10, .ref q_12, .ref q_14, .ref q_6, .ref q_7, .ref q_8, .ref q_9, .int 0, .int 0, .int 0, .int (-1), .int (-1), .int (-1), .int (-1)])), (q_1, .inr (5, [.ref ar_2, .int 0])), (ar_2, .inl (cI, 800, .inl (fun _ => 0))), (q_3, .inl (cI, 801, .inl (fun _ => 0))), (q_4, .inl (cI, 801, .inl (fun _ => 0))), (q_5, .inl (cI, 801, .inl (fun _ => 0))), (q_6, .inl (cI, 200, .inl (fun _ => 0))), (q_7, .inl (cI, 200, .inl (fun _ => 0))), (q_8, .inl (cI, 200, .inl (fun _ => 0))), (q_9, .inl (cI, 200, .inl (fun _ => 0))), (q_10, .inr (8, [.ref oC, .ref oK, .int 0, .int 32, .int 0, .int 0])), (q_12, .inr (8, [.ref oC, .ref oK, .int 0, .int 32, .int 0, .int 0])), (q_14, .inr (8, [.ref oC, .ref oK, .int 0, .int 32, .int 0, .int 0]))] := hDn
  have hS := hSn
  clear hPn hDn hSn
  have hP9 := hP.sub (ws' := [(o, .inr (1, [.ref oC, .ref oK, .ref q_1, .ref q_3, .ref q_4, .ref q_5, .ref q_10, .ref q_12, .ref q_14, .ref q_6, .ref q_7, .ref q_8, .ref q_9, .int 0, .int 0, .int 0, .int (-1), .int (-1), .int (-1), .int (-1)])), (q_1, .inr (5, [.ref ar_2, .int 0])), (ar_2, .inl (cI, 800, .inl (fun _ => 0))), (q_10, .inr (8, [.ref oC, .ref oK, .int 0, .int 32, .int 0, .int 0])), (q_12, .inr (8, [.ref oC, .ref oK, .int 0, .int 32, .int 0, .int 0])), (q_14, .inr (8, [.ref oC, .ref oK, .int 0, .int 32, .int 0, .int 0])), (q_3, .inl (cI, 801, .inl (fun _ => 0))), (q_4, .inl (cI, 801, .inl (fun _ => 0))), (q_5, .inl (cI, 801, .inl (fun _ => 0))), (q_6, .inl (cI, 200, .inl (fun _ => 0))), (q_7, .inl (cI, 200, .inl (fun _ => 0))), (q_8, .inl (cI, 200, .inl (fun _ => 0))), (q_9, .inl (cI, 200, .inl (fun _ => 0)))]) [0, 1, 2, 10, 11, 12, 3, 4, 5, 6, 7, 8, 9] rfl
  have hD9 := hD.sub (ws' := [(o, .inr (1, [.ref oC, .ref oK, .ref q_1, .ref q_3, .ref q_4, .ref q_5, .ref q_10, .ref q_12, .ref q_14, .ref q_6, .ref q_7, .ref q_8, .ref q_9, .int 0, .int 0, .int 0, .int (-1), .int (-1), .int (-1), .int (-1)])), (q_1, .inr (5, [.ref ar_2, .int 0])), (ar_2, .inl (cI, 800, .inl (fun _ => 0))), (q_10, .inr (8, [.ref oC, .ref oK, .int 0, .int 32, .int 0, .int 0])), (q_12, .inr (8, [.ref oC, .ref oK, .int 0, .int 32, .int 0, .int 0])), (q_14, .inr (8, [.ref oC, .ref oK, .int 0, .int 32, .int 0, .int 0])), (q_3, .inl (cI, 801, .inl (fun _ => 0))), (q_4, .inl (cI, 801, .inl (fun _ => 0))), (q_5, .inl (cI, 801, .inl (fun _ => 0))), (q_6, .inl (cI, 200, .inl (fun _ => 0))), (q_7, .inl (cI, 200, .inl (fun _ => 0))), (q_8, .inl (cI, 200, .inl (fun _ => 0))), (q_9, .inl (cI, 200, .inl (fun _ => 0)))]) [0, 1, 2, 10, 11, 12, 3, 4, 5, 6, 7, 8, 9] (by decide +kernel) rfl
  refine W.widen (k := 12) (n := 4023) (by omega) (by omega) ?_
  exact W.vret hx hb hr (fun t ht hW => ⟨⟨(), rfl, trivial, q_1, ar_2, q_10, q_12, q_14, q_3, q_4, q_5, q_6, q_7, q_8, q_9, by rw [ht]; exact hP9, hD9⟩, hS.F ht⟩) (hS.2.2) dX1_init_165

end

/-! 42.a.rows -/
section
set_option maxRecDepth 100000 in
theorem dA57_cX11_init : kDec cX11_init [(0, .aload_n 0, 1), (1, .invokespecial 1, 3), (4, .new 7, 3), (7, .dup, 1), (8, .invokespecial 9, 3), (11, .astore_n 1, 1), (12, .new 10, 3), (15, .dup, 1), (16, .aload_n 1, 1), (17, .invokespecial 12, 3), (20, .astore_n 2, 1), (21, .new 15, 3), (24, .dup, 1), (25, .aload_n 2, 1), (26, .invokespecial 17, 3), (29, .astore_n 3, 1), (30, .new 20, 3), (33, .dup, 1), (34, .invokespecial 22, 3), (37, .astore 4, 2), (39, .aload_n 0, 1), (40, .new 23, 3), (43, .dup, 1), (44, .sipush 900, 3)] = true := by decide +kernel
theorem dX11_init_0 : decode cX11_init 0 = .ok (.aload_n 0, 1) := kDec_at dA57_cX11_init 0 rfl
theorem dX11_init_1 : decode cX11_init 1 = .ok (.invokespecial 1, 3) := kDec_at dA57_cX11_init 1 rfl
theorem dX11_init_4 : decode cX11_init 4 = .ok (.new 7, 3) := kDec_at dA57_cX11_init 2 rfl
theorem dX11_init_7 : decode cX11_init 7 = .ok (.dup, 1) := kDec_at dA57_cX11_init 3 rfl
theorem dX11_init_8 : decode cX11_init 8 = .ok (.invokespecial 9, 3) := kDec_at dA57_cX11_init 4 rfl
theorem dX11_init_11 : decode cX11_init 11 = .ok (.astore_n 1, 1) := kDec_at dA57_cX11_init 5 rfl
theorem dX11_init_12 : decode cX11_init 12 = .ok (.new 10, 3) := kDec_at dA57_cX11_init 6 rfl
theorem dX11_init_15 : decode cX11_init 15 = .ok (.dup, 1) := kDec_at dA57_cX11_init 7 rfl
theorem dX11_init_16 : decode cX11_init 16 = .ok (.aload_n 1, 1) := kDec_at dA57_cX11_init 8 rfl
theorem dX11_init_17 : decode cX11_init 17 = .ok (.invokespecial 12, 3) := kDec_at dA57_cX11_init 9 rfl
theorem dX11_init_20 : decode cX11_init 20 = .ok (.astore_n 2, 1) := kDec_at dA57_cX11_init 10 rfl
theorem dX11_init_21 : decode cX11_init 21 = .ok (.new 15, 3) := kDec_at dA57_cX11_init 11 rfl
theorem dX11_init_24 : decode cX11_init 24 = .ok (.dup, 1) := kDec_at dA57_cX11_init 12 rfl
theorem dX11_init_25 : decode cX11_init 25 = .ok (.aload_n 2, 1) := kDec_at dA57_cX11_init 13 rfl
theorem dX11_init_26 : decode cX11_init 26 = .ok (.invokespecial 17, 3) := kDec_at dA57_cX11_init 14 rfl
theorem dX11_init_29 : decode cX11_init 29 = .ok (.astore_n 3, 1) := kDec_at dA57_cX11_init 15 rfl
theorem dX11_init_30 : decode cX11_init 30 = .ok (.new 20, 3) := kDec_at dA57_cX11_init 16 rfl
theorem dX11_init_33 : decode cX11_init 33 = .ok (.dup, 1) := kDec_at dA57_cX11_init 17 rfl
theorem dX11_init_34 : decode cX11_init 34 = .ok (.invokespecial 22, 3) := kDec_at dA57_cX11_init 18 rfl
theorem dX11_init_37 : decode cX11_init 37 = .ok (.astore 4, 2) := kDec_at dA57_cX11_init 19 rfl
theorem dX11_init_39 : decode cX11_init 39 = .ok (.aload_n 0, 1) := kDec_at dA57_cX11_init 20 rfl
theorem dX11_init_40 : decode cX11_init 40 = .ok (.new 23, 3) := kDec_at dA57_cX11_init 21 rfl
theorem dX11_init_43 : decode cX11_init 43 = .ok (.dup, 1) := kDec_at dA57_cX11_init 22 rfl
theorem dX11_init_44 : decode cX11_init 44 = .ok (.sipush 900, 3) := kDec_at dA57_cX11_init 23 rfl
set_option maxRecDepth 20000 in
theorem gX2_init_all : wsX2_init.all goodWord = true := by
  unfold wsX2_init
  exact good_c (by decide +kernel) (good_a (good_a (good_a ((by decide +kernel)) gX10_clsall) gX2_clsall) gX10_init_all)
set_option maxRecDepth 20000 in
theorem ggX11_init_X2_init : GoodIn wsX11_init wsX2_init := goodIn_sub (fun _ h => List.mem_cons_of_mem _ (List.mem_append_left _ (List.mem_append_left _ (List.mem_append_left _ (List.mem_append_left _ (List.mem_append_left _ (List.mem_append_left _ (List.mem_append_left _ (List.mem_append_left _ (List.mem_append_right _ (h))))))))))) gX2_init_all
set_option maxRecDepth 20000 in
theorem gX11_init_X2_init_n9 : GoodIn wsX11_init (wsX2_init) := ggX11_init_X2_init
set_option maxRecDepth 20000 in
theorem gX7_clsall : wsX70.all goodWord = true := by decide +kernel
set_option maxRecDepth 20000 in
theorem gX7_init_all : wsX7_init.all goodWord = true := by
  unfold wsX7_init
  exact good_c (by decide +kernel) (good_a (good_a (good_a ((by decide +kernel)) gX5_clsall) gX7_clsall) gX5_init_all)
set_option maxRecDepth 20000 in
theorem ggX11_init_X7_init : GoodIn wsX11_init wsX7_init := goodIn_sub (fun _ h => List.mem_cons_of_mem _ (List.mem_append_left _ (List.mem_append_left _ (List.mem_append_left _ (List.mem_append_left _ (List.mem_append_left _ (List.mem_append_left _ (List.mem_append_left _ (List.mem_append_right _ (h)))))))))) gX7_init_all
set_option maxRecDepth 20000 in
theorem gX11_init_X7_init : GoodIn wsX11_init (wsX7_init) := ggX11_init_X7_init
set_option maxRecDepth 20000 in
theorem gX4_init_all : wsX4_init.all goodWord = true := by
  unfold wsX4_init
  exact good_c (by decide +kernel) (good_a ((by decide +kernel)) gX4_clsall)
set_option maxRecDepth 20000 in
theorem ggX11_init_X4_init : GoodIn wsX11_init wsX4_init := goodIn_sub (fun _ h => List.mem_cons_of_mem _ (List.mem_append_left _ (List.mem_append_left _ (List.mem_append_left _ (List.mem_append_left _ (List.mem_append_left _ (List.mem_append_left _ (List.mem_append_right _ (h))))))))) gX4_init_all
set_option maxRecDepth 20000 in
theorem gX11_init_X4_init : GoodIn wsX11_init (wsX4_init) := ggX11_init_X4_init
set_option maxRecDepth 20000 in
theorem gX3_init_all : wsX3_init.all goodWord = true := by
  unfold wsX3_init
  exact good_c (by decide +kernel) (good_a (good_a ((by decide +kernel)) gX3_clsall) gJ7_fill_53178_all)
set_option maxRecDepth 20000 in
theorem ggX11_init_X3_init : GoodIn wsX11_init wsX3_init := goodIn_sub (fun _ h => List.mem_cons_of_mem _ (List.mem_append_left _ (List.mem_append_left _ (List.mem_append_left _ (List.mem_append_left _ (List.mem_append_left _ (List.mem_append_right _ (h)))))))) gX3_init_all
set_option maxRecDepth 20000 in
theorem gX11_init_X3_init : GoodIn wsX11_init (wsX3_init) := ggX11_init_X3_init
set_option maxRecDepth 20000 in
theorem ggX11_init_X5_init : GoodIn wsX11_init wsX5_init := goodIn_sub (fun _ h => List.mem_cons_of_mem _ (List.mem_append_left _ (List.mem_append_left _ (List.mem_append_left _ (List.mem_append_left _ (List.mem_append_right _ (h))))))) gX5_init_all
set_option maxRecDepth 20000 in
theorem gX11_init_X5_init : GoodIn wsX11_init (wsX5_init) := ggX11_init_X5_init
set_option maxRecDepth 100000 in
theorem dA58_cX11_init : kDec cX11_init [(47, .invokespecial 27, 3), (50, .putfield 30, 3), (53, .aload_n 0, 1), (54, .new 23, 3), (57, .dup, 1), (58, .sipush 300, 3), (61, .invokespecial 27, 3), (64, .putfield 34, 3), (67, .aload_n 0, 1), (68, .new 23, 3), (71, .dup, 1), (72, .sipush 300, 3), (75, .invokespecial 27, 3), (78, .putfield 37, 3), (81, .aload_n 0, 1), (82, .aload_n 1, 1), (83, .putfield 40, 3), (86, .aload_n 0, 1), (87, .aload_n 2, 1), (88, .putfield 44, 3), (91, .aload_n 0, 1), (92, .aload_n 3, 1), (93, .putfield 48, 3), (96, .aload_n 0, 1)] = true := by decide +kernel
theorem dX11_init_47 : decode cX11_init 47 = .ok (.invokespecial 27, 3) := kDec_at dA58_cX11_init 0 rfl
theorem dX11_init_50 : decode cX11_init 50 = .ok (.putfield 30, 3) := kDec_at dA58_cX11_init 1 rfl
theorem dX11_init_53 : decode cX11_init 53 = .ok (.aload_n 0, 1) := kDec_at dA58_cX11_init 2 rfl
theorem dX11_init_54 : decode cX11_init 54 = .ok (.new 23, 3) := kDec_at dA58_cX11_init 3 rfl
theorem dX11_init_57 : decode cX11_init 57 = .ok (.dup, 1) := kDec_at dA58_cX11_init 4 rfl
theorem dX11_init_58 : decode cX11_init 58 = .ok (.sipush 300, 3) := kDec_at dA58_cX11_init 5 rfl
theorem dX11_init_61 : decode cX11_init 61 = .ok (.invokespecial 27, 3) := kDec_at dA58_cX11_init 6 rfl
theorem dX11_init_64 : decode cX11_init 64 = .ok (.putfield 34, 3) := kDec_at dA58_cX11_init 7 rfl
theorem dX11_init_67 : decode cX11_init 67 = .ok (.aload_n 0, 1) := kDec_at dA58_cX11_init 8 rfl
theorem dX11_init_68 : decode cX11_init 68 = .ok (.new 23, 3) := kDec_at dA58_cX11_init 9 rfl
theorem dX11_init_71 : decode cX11_init 71 = .ok (.dup, 1) := kDec_at dA58_cX11_init 10 rfl
theorem dX11_init_72 : decode cX11_init 72 = .ok (.sipush 300, 3) := kDec_at dA58_cX11_init 11 rfl
theorem dX11_init_75 : decode cX11_init 75 = .ok (.invokespecial 27, 3) := kDec_at dA58_cX11_init 12 rfl
theorem dX11_init_78 : decode cX11_init 78 = .ok (.putfield 37, 3) := kDec_at dA58_cX11_init 13 rfl
theorem dX11_init_81 : decode cX11_init 81 = .ok (.aload_n 0, 1) := kDec_at dA58_cX11_init 14 rfl
theorem dX11_init_82 : decode cX11_init 82 = .ok (.aload_n 1, 1) := kDec_at dA58_cX11_init 15 rfl
theorem dX11_init_83 : decode cX11_init 83 = .ok (.putfield 40, 3) := kDec_at dA58_cX11_init 16 rfl
theorem dX11_init_86 : decode cX11_init 86 = .ok (.aload_n 0, 1) := kDec_at dA58_cX11_init 17 rfl
theorem dX11_init_87 : decode cX11_init 87 = .ok (.aload_n 2, 1) := kDec_at dA58_cX11_init 18 rfl
theorem dX11_init_88 : decode cX11_init 88 = .ok (.putfield 44, 3) := kDec_at dA58_cX11_init 19 rfl
theorem dX11_init_91 : decode cX11_init 91 = .ok (.aload_n 0, 1) := kDec_at dA58_cX11_init 20 rfl
theorem dX11_init_92 : decode cX11_init 92 = .ok (.aload_n 3, 1) := kDec_at dA58_cX11_init 21 rfl
theorem dX11_init_93 : decode cX11_init 93 = .ok (.putfield 48, 3) := kDec_at dA58_cX11_init 22 rfl
theorem dX11_init_96 : decode cX11_init 96 = .ok (.aload_n 0, 1) := kDec_at dA58_cX11_init 23 rfl
set_option maxRecDepth 100000 in
theorem dA59_cX11_init : kDec cX11_init [(97, .aload 4, 2), (99, .putfield 52, 3), (102, .aload_n 0, 1), (103, .new 56, 3), (106, .dup, 1), (107, .invokespecial 58, 3), (110, .putfield 59, 3), (113, .aload_n 0, 1), (114, .new 63, 3), (117, .dup, 1), (118, .aload_n 3, 1), (119, .aload 4, 2), (121, .invokespecial 65, 3), (124, .putfield 68, 3), (127, .aload_n 0, 1), (128, .new 72, 3), (131, .dup, 1), (132, .aload_n 1, 1), (133, .aload_n 3, 1), (134, .aload 4, 2), (136, .invokespecial 74, 3), (139, .putfield 77, 3), (142, .aload_n 0, 1), (143, .new 81, 3)] = true := by decide +kernel
theorem dX11_init_97 : decode cX11_init 97 = .ok (.aload 4, 2) := kDec_at dA59_cX11_init 0 rfl
theorem dX11_init_99 : decode cX11_init 99 = .ok (.putfield 52, 3) := kDec_at dA59_cX11_init 1 rfl
theorem dX11_init_102 : decode cX11_init 102 = .ok (.aload_n 0, 1) := kDec_at dA59_cX11_init 2 rfl
theorem dX11_init_103 : decode cX11_init 103 = .ok (.new 56, 3) := kDec_at dA59_cX11_init 3 rfl
theorem dX11_init_106 : decode cX11_init 106 = .ok (.dup, 1) := kDec_at dA59_cX11_init 4 rfl
theorem dX11_init_107 : decode cX11_init 107 = .ok (.invokespecial 58, 3) := kDec_at dA59_cX11_init 5 rfl
theorem dX11_init_110 : decode cX11_init 110 = .ok (.putfield 59, 3) := kDec_at dA59_cX11_init 6 rfl
theorem dX11_init_113 : decode cX11_init 113 = .ok (.aload_n 0, 1) := kDec_at dA59_cX11_init 7 rfl
theorem dX11_init_114 : decode cX11_init 114 = .ok (.new 63, 3) := kDec_at dA59_cX11_init 8 rfl
theorem dX11_init_117 : decode cX11_init 117 = .ok (.dup, 1) := kDec_at dA59_cX11_init 9 rfl
theorem dX11_init_118 : decode cX11_init 118 = .ok (.aload_n 3, 1) := kDec_at dA59_cX11_init 10 rfl
theorem dX11_init_119 : decode cX11_init 119 = .ok (.aload 4, 2) := kDec_at dA59_cX11_init 11 rfl
theorem dX11_init_121 : decode cX11_init 121 = .ok (.invokespecial 65, 3) := kDec_at dA59_cX11_init 12 rfl
theorem dX11_init_124 : decode cX11_init 124 = .ok (.putfield 68, 3) := kDec_at dA59_cX11_init 13 rfl
theorem dX11_init_127 : decode cX11_init 127 = .ok (.aload_n 0, 1) := kDec_at dA59_cX11_init 14 rfl
theorem dX11_init_128 : decode cX11_init 128 = .ok (.new 72, 3) := kDec_at dA59_cX11_init 15 rfl
theorem dX11_init_131 : decode cX11_init 131 = .ok (.dup, 1) := kDec_at dA59_cX11_init 16 rfl
theorem dX11_init_132 : decode cX11_init 132 = .ok (.aload_n 1, 1) := kDec_at dA59_cX11_init 17 rfl
theorem dX11_init_133 : decode cX11_init 133 = .ok (.aload_n 3, 1) := kDec_at dA59_cX11_init 18 rfl
theorem dX11_init_134 : decode cX11_init 134 = .ok (.aload 4, 2) := kDec_at dA59_cX11_init 19 rfl
theorem dX11_init_136 : decode cX11_init 136 = .ok (.invokespecial 74, 3) := kDec_at dA59_cX11_init 20 rfl
theorem dX11_init_139 : decode cX11_init 139 = .ok (.putfield 77, 3) := kDec_at dA59_cX11_init 21 rfl
theorem dX11_init_142 : decode cX11_init 142 = .ok (.aload_n 0, 1) := kDec_at dA59_cX11_init 22 rfl
theorem dX11_init_143 : decode cX11_init 143 = .ok (.new 81, 3) := kDec_at dA59_cX11_init 23 rfl
set_option maxRecDepth 20000 in
theorem gX0_init_all : wsX0_init.all goodWord = true := by
  unfold wsX0_init
  exact good_c (by decide +kernel) (good_a ((by decide +kernel)) gX0_clsall)
set_option maxRecDepth 20000 in
theorem ggX11_init_X0_init : GoodIn wsX11_init wsX0_init := goodIn_sub (fun _ h => List.mem_cons_of_mem _ (List.mem_append_left _ (List.mem_append_left _ (List.mem_append_left _ (List.mem_append_right _ (h)))))) gX0_init_all
set_option maxRecDepth 20000 in
theorem gX11_init_X0_init : GoodIn wsX11_init (wsX0_init) := ggX11_init_X0_init
set_option maxRecDepth 20000 in
theorem gX9_init_all : wsX9_init.all goodWord = true := by
  unfold wsX9_init
  exact good_c (by decide +kernel) (good_a (good_a (good_a (good_a ((by decide +kernel)) gX5_clsall) gX9_clsall) gX5_init_all) gJ7_fill_53178_all)
set_option maxRecDepth 20000 in
theorem ggX11_init_X9_init : GoodIn wsX11_init wsX9_init := goodIn_sub (fun _ h => List.mem_cons_of_mem _ (List.mem_append_left _ (List.mem_append_left _ (List.mem_append_right _ (h))))) gX9_init_all
set_option maxRecDepth 20000 in
theorem gX11_init_X9_init : GoodIn wsX11_init (wsX9_init) := ggX11_init_X9_init
set_option maxRecDepth 20000 in
theorem gX6_clsall : wsX60.all goodWord = true := by decide +kernel
set_option maxRecDepth 20000 in
theorem gX6_init_all : wsX6_init.all goodWord = true := by
  unfold wsX6_init
  exact good_c (by decide +kernel) (good_a (good_a (good_a (good_a (good_a ((by decide +kernel)) gX5_clsall) gX6_clsall) gX8_clsall) gX5_init_all) gX8_init_all)
set_option maxRecDepth 20000 in
theorem ggX11_init_X6_init : GoodIn wsX11_init wsX6_init := goodIn_sub (fun _ h => List.mem_cons_of_mem _ (List.mem_append_left _ (List.mem_append_right _ (h)))) gX6_init_all
set_option maxRecDepth 20000 in
theorem gX11_init_X6_init : GoodIn wsX11_init (wsX6_init) := ggX11_init_X6_init
set_option maxRecDepth 100000 in
theorem dA60_cX11_init : kDec cX11_init [(146, .dup, 1), (147, .aload_n 1, 1), (148, .aload 4, 2), (150, .invokespecial 83, 3), (153, .putfield 86, 3), (156, .aload_n 0, 1), (157, .iconst (-1), 1), (158, .putfield 90, 3), (161, .return_, 1)] = true := by decide +kernel
theorem dX11_init_146 : decode cX11_init 146 = .ok (.dup, 1) := kDec_at dA60_cX11_init 0 rfl
theorem dX11_init_147 : decode cX11_init 147 = .ok (.aload_n 1, 1) := kDec_at dA60_cX11_init 1 rfl
theorem dX11_init_148 : decode cX11_init 148 = .ok (.aload 4, 2) := kDec_at dA60_cX11_init 2 rfl
theorem dX11_init_150 : decode cX11_init 150 = .ok (.invokespecial 83, 3) := kDec_at dA60_cX11_init 3 rfl
theorem dX11_init_153 : decode cX11_init 153 = .ok (.putfield 86, 3) := kDec_at dA60_cX11_init 4 rfl
theorem dX11_init_156 : decode cX11_init 156 = .ok (.aload_n 0, 1) := kDec_at dA60_cX11_init 5 rfl
theorem dX11_init_157 : decode cX11_init 157 = .ok (.iconst (-1), 1) := kDec_at dA60_cX11_init 6 rfl
theorem dX11_init_158 : decode cX11_init 158 = .ok (.putfield 90, 3) := kDec_at dA60_cX11_init 7 rfl
theorem dX11_init_161 : decode cX11_init 161 = .ok (.return_, 1) := kDec_at dA60_cX11_init 8 rfl
set_option maxRecDepth 20000 in
theorem gX1_init_all : wsX1_init.all goodWord = true := by
  unfold wsX1_init
  exact good_c (by decide +kernel) (good_a (good_a (good_a (good_a (good_a ((by decide +kernel)) gX5_clsall) gX1_clsall) gX8_clsall) gX5_init_all) gX8_init_all)
set_option maxRecDepth 20000 in
theorem ggX11_init_X1_init : GoodIn wsX11_init wsX1_init := goodIn_sub (fun _ h => List.mem_cons_of_mem _ (List.mem_append_right _ (h))) gX1_init_all
set_option maxRecDepth 20000 in
theorem gX11_init_X1_init : GoodIn wsX11_init (wsX1_init) := ggX11_init_X1_init

end
