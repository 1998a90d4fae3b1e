set_option maxHeartbeats 40000000 in
set_option maxRecDepth 100000 in
theorem m_J7_fill_53178 (l : Launch) (dC : Nat → ClassId) (dI : Nat → Nat → Nat) (cI cS : ClassId) (sz : Nat) (ar : Nat) (n : Nat) (f : Nat → Int32) (v : Int32) (hn : n < 2 ^ 31) : Met l yJ7_fill_53178 wsJ7_fill_53178 ({ frames := 0, cells := 0, slots := 0, locals := 0 } : Room) (va_Pc [.ref ar, .int v] (fun U => U.heap.size = sz ∧ va_P (dC, dI) vwCl [(ar, .inl (cI, n, .inl f))] U.heap ∧ va_K (dC, dI) vwCl [(cI, .int), (cS, .short)] U ∧ va_D (fun _ => True) [(ar, .inl (cI, n, .inl f))])) (va_Qv (fun (_ : Unit) => True) (fun _ t => ∃ (f' : Nat → Int32), va_P (dC, dI) vwCl [(ar, .inl (cI, n, .inl f'))] t.heap ∧ va_D (va_A [(ar, .inl (cI, n, .inl f))] sz) [(ar, .inl (cI, n, .inl f'))] ∧ (F_fill n f' v)) (va_A [(ar, .inl (cI, n, .inl f))] sz)) 0 0 (va_A [(ar, .inl (cI, n, .inl f))] sz) := by
  refine Met.ofW (cc := cJ7_fill_53178) (maxL := 4) (ret := none) (by decide) rfl ?_
  intro p e s m args below meth c s₁ B hml hv
  obtain ⟨rfl, hsz, hP, hK, hD0⟩ := hv
  have hx := B.exec
  have hb := B.bytes
  have hr := B.returns
  have hts := atoms_spec (ws := wsJ7_fill_53178) B.pre
  have hown : s.vm.findClass RJ7 = some m.cls := findClass_of_methodNamed B.named
  have hlocks := B.notSynchronized
  subst hsz
  have hD := hD0.self (sz := s.heap.size)
  generalize hAe : va_A [(ar, .inl (cI, n, .inl f))] s.heap.size = A at hD ⊢
  have hA : ∀ q : Nat, s.heap.size ≤ q → A q := fun q h => by rw [← hAe]; exact Or.inr h
  have hS : va_S A s.heap s.heap [] := va_S.rf
  have hP : va_P (dC, dI) vwCl [(ar, .inl (cI, n, .inl f))] s.heap := hP
  have hl := lv_entry ([.ref ar, .int v]) (n := 4) (Nat.le_of_ble_eq_true rfl)
  rw [lg_entry_eq]
  generalize (lg_sl ([.ref ar, .int v]) ++ List.replicate (4 - (lg_sl ([.ref ar, .int v])).length) Slot.unset).toArray = ls at hl ⊢
  have hl : lv_has ls 4 [(0, .ref ar), (1, .int v)] := hl
  obtain ⟨QQ, hQQ⟩ : ∃ QQ : Array Value → State → Outcome → State → Prop, QQ = va_Qv (fun (_ : Unit) => True) (fun _ t => ∃ (f' : Nat → Int32), va_P (dC, dI) vwCl [(ar, .inl (cI, n, .inl f'))] t.heap ∧ va_D A [(ar, .inl (cI, n, .inl f'))] ∧ (F_fill n f' v)) A := ⟨_, rfl⟩
  rw [← hQQ]
  refine lv_iconst (v := 0) hx hb dJ7_fill_53178_0 (by decide) ?_
  refine lv_istore_n (lv' := [(2, .int 0), (0, .ref ar), (1, .int v)]) hx hb dJ7_fill_53178_1 rfl hl (by decide) rfl (fun ls hl => ?_)
  refine lv_aload_n hx hb dJ7_fill_53178_2 rfl (lv_at hl 1 rfl) ?_
  refine va_alen hx hb hK hP 0 0 rfl rfl (v := Int32.ofNat n) rfl dJ7_fill_53178_3 ?_
  refine lv_topi (fun x_1 ex_1 => ?_)
  have tx_1 : x_1.toInt = (n : Int) := by rw [ex_1]; exact v_nat (by omega)
  refine lv_istore_n (lv' := [(3, .int x_1), (2, .int 0), (0, .ref ar), (1, .int v)]) hx hb dJ7_fill_53178_4 rfl hl (by decide) rfl (fun ls hl => ?_)
  have LOOP_5 : ∀ (k_5 : Nat) (i : Int32) (f2 : Nat → Int32) (H : Heap) (locs : List Loc) (ls : Array Slot), ((n : Int) - i.toInt : Int).toNat < k_5 → (0 ≤ i.toInt ∧ i.toInt ≤ (n : Int)) → (∀ j : Nat, (j : Int) < i.toInt → f2 j = v) → va_P (dC, dI) vwCl [(ar, .inl (cI, n, .inl f2))] H → va_D A [(ar, .inl (cI, n, .inl f2))] → va_S A s.heap H locs → lv_has ls 4 [(3, .int x_1), (2, .int i), (0, .ref ar), (1, .int v)] → W p l e (headSpec wsJ7_fill_53178 ({ frames := 0, cells := 0, slots := 0, locals := 0 } : Room)).room s m ([.ref ar, .int v] : List Value).toArray below meth c H locs 0 0 (MQ below QQ ([.ref ar, .int v] : List Value).toArray s 0 0 A) (F0 m 5 ls []) := by
    intro k_5
    induction k_5 with
    | zero =>
      intro i f2 H locs ls hm_5 g_i hfl hP hD hS hl
      exact absurd hm_5 (Nat.not_lt_zero _)
    | succ k_5 ih_5 =>
      intro i f2 H locs ls hm_5 g_i hfl hP hD hS hl
      refine lv_iload_n hx hb dJ7_fill_53178_5 rfl (lv_at hl 1 rfl) ?_
      refine lv_iload_n hx hb dJ7_fill_53178_6 rfl (lv_at hl 0 rfl) ?_
      refine lv_icmp_ge (tgt := 20) hx hb dJ7_fill_53178_7 (by decide) (fun c_2 => ?_) (fun c_2 => ?_)
      · have tc_2 : x_1.toInt ≤ i.toInt := v_le c_2
        have rw2_0 := v_rng i
        have rw2_1 := v_rng x_1
        have hP9 := hP.sub (ws' := [(ar, .inl (cI, n, .inl f2))]) [0] rfl
        have hD9 := hD.sub (ws' := [(ar, .inl (cI, n, .inl f2))]) [0] (by decide) rfl
        rw [hQQ]
        exact W.vret hx hb hr (fun t ht hW => ⟨⟨(), rfl, trivial, ⟨f2, by rw [ht]; exact hP9, hD9, fun j hj => hfl j (by omega)⟩⟩, hS.F ht⟩) hS.2.2 dJ7_fill_53178_20
      · have tc_2 : i.toInt < x_1.toInt := v_nle c_2
        have rw2_0 := v_rng i
        have rw2_1 := v_rng x_1
        refine lv_aload_n hx hb dJ7_fill_53178_10 rfl (lv_at hl 2 rfl) ?_
        refine lv_iload_n hx hb dJ7_fill_53178_11 rfl (lv_at hl 1 rfl) ?_
        refine lv_iload_n hx hb dJ7_fill_53178_12 rfl (lv_at hl 3 rfl) ?_
        refine va_iast hx hb hK hP hD hS 0 0 rfl rfl (v_in (by omega)) dJ7_fill_53178_13 (fun H locs hP hD hS => ?_)
        have hP : va_P (dC, dI) vwCl [(ar, .inl (cI, n, .inl (upd f2 (i : Int32).toNatClampNeg v)))] H := hP
        have hD : va_D A [(ar, .inl (cI, n, .inl (upd f2 (i : Int32).toNatClampNeg v)))] := hD
        obtain ⟨f_3, ef_3⟩ : ∃ g : Nat → Int32, g = upd f2 (i : Int32).toNatClampNeg v := ⟨_, rfl⟩
        rw [← ef_3] at hP hD
        obtain ⟨x_4, ex_4⟩ : ∃ y : Int32, y = i + 1 := ⟨_, rfl⟩
        have tx_4 : x_4.toInt = i.toInt + 1 := v_add ex_4 (by show -2147483648 ≤ i.toInt + 1; omega) (by show i.toInt + 1 < 2147483648; omega)
        refine lv_iinc (v := x_4) (lv' := [(2, .int x_4), (3, .int x_1), (0, .ref ar), (1, .int v)]) hx hb dJ7_fill_53178_14 hl (k := 1) rfl (by rw [ex_4]; rfl) (by decide) rfl (fun ls hl => ?_)
        refine lv_goto (tgt := 5) hx hb dJ7_fill_53178_17 (by decide) ?_
        exact ih_5 x_4 f_3 _ _ _ (by have hm9 := hm_5; show (((n : Int) - x_4.toInt : Int)).toNat < k_5; omega) (by show 0 ≤ x_4.toInt ∧ x_4.toInt ≤ (n : Int); omega) (v_fill ef_3 (by omega) hfl (by omega)) hP hD hS (lv_sub hl [1, 0, 2, 3] rfl)
  exact LOOP_5 _ 0 f _ _ _ (Nat.lt_succ_self _) (by show 0 ≤ (0 : Int) ∧ (0 : Int) ≤ (n : Int); omega) (fun j hj => by exact absurd hj (by show ¬ (j : Int) < 0; omega)) hP hD hS (lv_sub hl [0, 1, 2, 3] rfl)

set_option maxHeartbeats 40000000 in
set_option maxRecDepth 100000 in
theorem m_X10_length (l : Launch) (dC : Nat → ClassId) (dI : Nat → Nat → Nat) (cI cS : ClassId) (sz : Nat) (ot : Nat) (at1 : Nat) (at2 : Nat) (at3 : Nat) (lt : Int32)  : Met l yX10_length wsX10_length ({ frames := 0, cells := 0, slots := 0, locals := 0 } : Room) (va_Pc [.ref ot] (fun U => U.heap.size = sz ∧ va_P (dC, dI) vwCl [(ot, .inr (10, [.ref at1, .ref at2, .ref at3, .int lt]))] U.heap ∧ va_K (dC, dI) vwCl [(cI, .int), (cS, .short)] U ∧ va_D (fun _ => True) [(ot, .inr (10, [.ref at1, .ref at2, .ref at3, .int lt]))])) (va_Qi (fun (r : Int32) (u : Int32) => r = u) (fun (r : Int32) t => va_P (dC, dI) vwCl [(ot, .inr (10, [.ref at1, .ref at2, .ref at3, .int lt]))] t.heap ∧ va_D (va_A [(ot, .inr (10, [.ref at1, .ref at2, .ref at3, .int lt]))] sz) [(ot, .inr (10, [.ref at1, .ref at2, .ref at3, .int lt]))] ∧ (r = lt)) (va_A [(ot, .inr (10, [.ref at1, .ref at2, .ref at3, .int lt]))] sz)) 0 0 (va_A [(ot, .inr (10, [.ref at1, .ref at2, .ref at3, .int lt]))] sz) := by
  refine Met.ofW (cc := cX10_length) (maxL := 1) (ret := (some .int)) (by decide) rfl ?_
  intro p e s m args below meth c s₁ B hml hv
  obtain ⟨rfl, hsz, hP, hK, hD0⟩ := hv
  have hx := B.exec
  have hb := B.bytes
  have hr := B.returns
  have hts := atoms_spec (ws := wsX10_length) B.pre
  have hown : s.vm.findClass RX10 = some m.cls := findClass_of_methodNamed B.named
  have hlocks := B.notSynchronized
  have in_X10 : ∀ w ∈ wsX100, w ∈ wsX10_length := fun _ h => List.mem_cons_of_mem _ (List.mem_append_right _ (h))
  subst hsz
  have hD := hD0.self (sz := s.heap.size)
  generalize hAe : va_A [(ot, .inr (10, [.ref at1, .ref at2, .ref at3, .int lt]))] s.heap.size = A at hD ⊢
  have hA : ∀ q : Nat, s.heap.size ≤ q → A q := fun q h => by rw [← hAe]; exact Or.inr h
  have hS : va_S A s.heap s.heap [] := va_S.rf
  have hP : va_P (dC, dI) vwCl [(ot, .inr (10, [.ref at1, .ref at2, .ref at3, .int lt]))] s.heap := hP
  have hl := lv_entry ([.ref ot]) (n := 1) (Nat.le_of_ble_eq_true rfl)
  rw [lg_entry_eq]
  generalize (lg_sl ([.ref ot]) ++ List.replicate (1 - (lg_sl ([.ref ot])).length) Slot.unset).toArray = ls at hl ⊢
  have hl : lv_has ls 1 [(0, .ref ot)] := hl
  obtain ⟨QQ, hQQ⟩ : ∃ QQ : Array Value → State → Outcome → State → Prop, QQ = va_Qi (fun (r : Int32) (u : Int32) => r = u) (fun (r : Int32) t => va_P (dC, dI) vwCl [(ot, .inr (10, [.ref at1, .ref at2, .ref at3, .int lt]))] t.heap ∧ va_D A [(ot, .inr (10, [.ref at1, .ref at2, .ref at3, .int lt]))] ∧ (r = lt)) A := ⟨_, rfl⟩
  rw [← hQQ]
  refine lv_aload_n hx hb dX10_length_0 rfl (lv_at hl 0 rfl) ?_
  refine va_get (D := (dC, dI)) (ci := 10) (v := .int lt) (C := RX10) (T := TX10) (N := 4) hx hb hts in_X10 hown hK hP 0 rfl rfl 3 (by decide) (hts (.fieldLink RX10 27 "TextMender$ToldCode" "length" "I") (List.mem_of_getElem? (i := 1) rfl)) (fun _ h9 => h9) rfl dX10_length_1 ?_
  have hP9 := hP.sub (ws' := [(ot, .inr (10, [.ref at1, .ref at2, .ref at3, .int lt]))]) [0] rfl
  have hD9 := hD.sub (ws' := [(ot, .inr (10, [.ref at1, .ref at2, .ref at3, .int lt]))]) [0] (by decide) rfl
  rw [hQQ]
  exact W.iret (v := lt) hx hb hr (fun t ht hW => ⟨⟨lt, lt, rfl, rfl, ⟨by rw [ht]; exact hP9, hD9, rfl⟩⟩, hS.F ht⟩) hS.2.2 dX10_length_4

set_option maxHeartbeats 40000000 in
set_option maxRecDepth 100000 in
theorem m_X10_empty (l : Launch) (dC : Nat → ClassId) (dI : Nat → Nat → Nat) (cI cS : ClassId) (sz : Nat) (ot : Nat) (at1 : Nat) (at2 : Nat) (at3 : Nat) (lt : Int32) (ft1 : Nat → Int32) (ft3 : Nat → Int32)  : Met l yX10_empty wsX10_empty ({ frames := 1, cells := 0, slots := 0, locals := 23 } : Room) (va_Pc [.ref ot] (fun U => U.heap.size = sz ∧ va_P (dC, dI) vwCl [(ot, .inr (10, [.ref at1, .ref at2, .ref at3, .int lt])), (at1, .inl (cI, 256, .inl ft1)), (at3, .inl (cI, 512, .inl ft3))] U.heap ∧ va_K (dC, dI) vwCl [(cI, .int), (cS, .short)] U ∧ va_D (fun _ => True) [(ot, .inr (10, [.ref at1, .ref at2, .ref at3, .int lt])), (at1, .inl (cI, 256, .inl ft1)), (at3, .inl (cI, 512, .inl ft3))])) (va_Qv (fun (_ : Unit) => True) (fun _ t => ∃ (lt' : Int32) (ft1' : Nat → Int32) (ft3' : Nat → Int32), va_P (dC, dI) vwCl [(ot, .inr (10, [.ref at1, .ref at2, .ref at3, .int lt'])), (at1, .inl (cI, 256, .inl ft1')), (at3, .inl (cI, 512, .inl ft3'))] t.heap ∧ va_D (va_A [(ot, .inr (10, [.ref at1, .ref at2, .ref at3, .int lt])), (at1, .inl (cI, 256, .inl ft1)), (at3, .inl (cI, 512, .inl ft3))] sz) [(ot, .inr (10, [.ref at1, .ref at2, .ref at3, .int lt'])), (at1, .inl (cI, 256, .inl ft1')), (at3, .inl (cI, 512, .inl ft3'))] ∧ (lt' = 0) ∧ (F_fill 256 ft1' (-1)) ∧ (F_fill 512 ft3' (-1))) (va_A [(ot, .inr (10, [.ref at1, .ref at2, .ref at3, .int lt])), (at1, .inl (cI, 256, .inl ft1)), (at3, .inl (cI, 512, .inl ft3))] sz)) 0 0 (va_A [(ot, .inr (10, [.ref at1, .ref at2, .ref at3, .int lt])), (at1, .inl (cI, 256, .inl ft1)), (at3, .inl (cI, 512, .inl ft3))] sz) := by
  refine Met.ofW (cc := cX10_empty) (maxL := 1) (ret := none) (by decide) rfl ?_
  intro p e s m args below meth c s₁ B hml hv
  obtain ⟨rfl, hsz, hP, hK, hD0⟩ := hv
  have hx := B.exec
  have hb := B.bytes
  have hr := B.returns
  have hts := atoms_spec (ws := wsX10_empty) B.pre
  have hown : s.vm.findClass RX10 = some m.cls := findClass_of_methodNamed B.named
  have hlocks := B.notSynchronized
  have in_X10 : ∀ w ∈ wsX100, w ∈ wsX10_empty := fun _ h => List.mem_cons_of_mem _ (List.mem_append_right _ (h))
  subst hsz
  have hD := hD0.self (sz := s.heap.size)
  generalize hAe : va_A [(ot, .inr (10, [.ref at1, .ref at2, .ref at3, .int lt])), (at1, .inl (cI, 256, .inl ft1)), (at3, .inl (cI, 512, .inl ft3))] s.heap.size = A at hD ⊢
  have hA : ∀ q : Nat, s.heap.size ≤ q → A q := fun q h => by rw [← hAe]; exact Or.inr h
  have hS : va_S A s.heap s.heap [] := va_S.rf
  have hP : va_P (dC, dI) vwCl [(ot, .inr (10, [.ref at1, .ref at2, .ref at3, .int lt])), (at1, .inl (cI, 256, .inl ft1)), (at3, .inl (cI, 512, .inl ft3))] s.heap := hP
  have hl := lv_entry ([.ref ot]) (n := 1) (Nat.le_of_ble_eq_true rfl)
  rw [lg_entry_eq]
  generalize (lg_sl ([.ref ot]) ++ List.replicate (1 - (lg_sl ([.ref ot])).length) Slot.unset).toArray = ls at hl ⊢
  have hl : lv_has ls 1 [(0, .ref ot)] := hl
  obtain ⟨QQ, hQQ⟩ : ∃ QQ : Array Value → State → Outcome → State → Prop, QQ = va_Qv (fun (_ : Unit) => True) (fun _ t => ∃ (lt' : Int32) (ft1' : Nat → Int32) (ft3' : Nat → Int32), va_P (dC, dI) vwCl [(ot, .inr (10, [.ref at1, .ref at2, .ref at3, .int lt'])), (at1, .inl (cI, 256, .inl ft1')), (at3, .inl (cI, 512, .inl ft3'))] t.heap ∧ va_D A [(ot, .inr (10, [.ref at1, .ref at2, .ref at3, .int lt'])), (at1, .inl (cI, 256, .inl ft1')), (at3, .inl (cI, 512, .inl ft3'))] ∧ (lt' = 0) ∧ (F_fill 256 ft1' (-1)) ∧ (F_fill 512 ft3' (-1))) A := ⟨_, rfl⟩
  rw [← hQQ]
  refine lv_aload_n hx hb dX10_empty_0 rfl (lv_at hl 0 rfl) ?_
  refine va_get (D := (dC, dI)) (ci := 10) (v := .ref at1) (C := RX10) (T := TX10) (N := 4) hx hb hts in_X10 hown hK hP 0 rfl rfl 0 (by decide) (hts (.fieldLink RX10 9 "TextMender$ToldCode" "letterOf" "[I") (List.mem_of_getElem? (i := 1) rfl)) (fun _ h9 => h9) rfl dX10_empty_1 ?_
  refine lv_iconst (v := (-1)) hx hb dX10_empty_4 (by decide) ?_
  have hPc := hP.sub (ws' := [(at1, .inl (cI, 256, .inl ft1))]) [1] rfl
  have hDc := hD.sub (ws' := [(at1, .inl (cI, 256, .inl ft1))]) [1] (by decide) rfl
  have hFc := va_free (wc := [(at1, .inl (cI, 256, .inl ft1))]) hD hS hA [1] rfl
  refine va_callv (va_runS (As := [.ref at1, .int (-1)]) (rest := []) ⟨hx, hb, hml, hown, hts⟩ (m_J7_fill_53178 l dC dI cI cS s.heap.size at1 256 ft1 (-1) (by omega)) (va_cwS 2 hts gX10_empty_J7_fill_53178 rfl rfl rfl (by decide +kernel) ⟨Nat.le_of_ble_eq_true rfl, Nat.le_of_ble_eq_true rfl⟩) ⟨fun a U g mk q => by obtain ⟨q0, q1, qP, qK, qD⟩ := q; exact ⟨q0, q1, qP, va_K.moved (u := U) (U := U.calling g mk a) (Vm.Alike.refl U.vm) qK, qD⟩, fun U hU hW => ⟨rfl, by rw [hU], by rw [hU]; exact hPc, va_K.moved hW.alike hK, hDc.weaken (fun _ _ _ _ => trivial)⟩⟩ rfl rfl hl.1 rfl (lv_room (Nat.le_of_ble_eq_true rfl)) dX10_empty_5 ⟨Nat.le_of_ble_eq_true rfl, Nat.le_of_ble_eq_true rfl⟩) hS (fun q _ h => hFc q h) hFc (fun u t H1 locs ht hvm hw hB hz1 hk1 hS => ?_)
  obtain ⟨f_1, hP1, hD1, hf1_0⟩ := hB
  rw [ht] at hP1
  obtain ⟨hP, hD⟩ := va_join (wr := [(ot, .inr (10, [.ref at1, .ref at2, .ref at3, .int lt])), (at3, .inl (cI, 512, .inl ft3))]) (w1 := [(at1, .inl (cI, 256, .inl f_1))]) hP hD [1] [0, 2] rfl rfl (by decide) (by decide) hk1 hFc hP1 hD1
  generalize H1 = H at hP hS ⊢
  have hP : va_P (dC, dI) vwCl [(ot, .inr (10, [.ref at1, .ref at2, .ref at3, .int lt])), (at3, .inl (cI, 512, .inl ft3)), (at1, .inl (cI, 256, .inl f_1))] H := hP
  have hD : va_D A [(ot, .inr (10, [.ref at1, .ref at2, .ref at3, .int lt])), (at3, .inl (cI, 512, .inl ft3)), (at1, .inl (cI, 256, .inl f_1))] := hD
  refine lv_aload_n hx hb dX10_empty_8 rfl (lv_at hl 0 rfl) ?_
  refine va_get (D := (dC, dI)) (ci := 10) (v := .ref at3) (C := RX10) (T := TX10) (N := 4) hx hb hts in_X10 hown hK hP 0 rfl rfl 2 (by decide) (hts (.fieldLink RX10 18 "TextMender$ToldCode" "placeByte" "[I") (List.mem_of_getElem? (i := 2) rfl)) (fun _ h9 => h9) rfl dX10_empty_9 ?_
  refine lv_iconst (v := (-1)) hx hb dX10_empty_12 (by decide) ?_
  have hPc := hP.sub (ws' := [(at3, .inl (cI, 512, .inl ft3))]) [1] rfl
  have hDc := hD.sub (ws' := [(at3, .inl (cI, 512, .inl ft3))]) [1] (by decide) rfl
  have hFc := va_free (wc := [(at3, .inl (cI, 512, .inl ft3))]) hD hS hA [1] rfl
  refine va_callv (va_runS (As := [.ref at3, .int (-1)]) (rest := []) ⟨hx, hb, hml, hown, hts⟩ (m_J7_fill_53178 l dC dI cI cS H.size at3 512 ft3 (-1) (by omega)) (va_cwS 2 hts gX10_empty_J7_fill_53178 rfl rfl rfl (by decide +kernel) ⟨Nat.le_of_ble_eq_true rfl, Nat.le_of_ble_eq_true rfl⟩) ⟨fun a U g mk q => by obtain ⟨q0, q1, qP, qK, qD⟩ := q; exact ⟨q0, q1, qP, va_K.moved (u := U) (U := U.calling g mk a) (Vm.Alike.refl U.vm) qK, qD⟩, fun U hU hW => ⟨rfl, by rw [hU], by rw [hU]; exact hPc, va_K.moved hW.alike hK, hDc.weaken (fun _ _ _ _ => trivial)⟩⟩ rfl rfl hl.1 rfl (lv_room (Nat.le_of_ble_eq_true rfl)) dX10_empty_13 ⟨Nat.le_of_ble_eq_true rfl, Nat.le_of_ble_eq_true rfl⟩) hS (fun q _ h => hFc q h) hFc (fun u t H1 locs ht hvm hw hB hz1 hk1 hS => ?_)
  obtain ⟨f_2, hP1, hD1, hf2_0⟩ := hB
  rw [ht] at hP1
  obtain ⟨hP, hD⟩ := va_join (wr := [(ot, .inr (10, [.ref at1, .ref at2, .ref at3, .int lt])), (at1, .inl (cI, 256, .inl f_1))]) (w1 := [(at3, .inl (cI, 512, .inl f_2))]) hP hD [1] [0, 2] rfl rfl (by decide) (by decide) hk1 hFc hP1 hD1
  generalize H1 = H at hP hS ⊢
  have hP : va_P (dC, dI) vwCl [(ot, .inr (10, [.ref at1, .ref at2, .ref at3, .int lt])), (at1, .inl (cI, 256, .inl f_1)), (at3, .inl (cI, 512, .inl f_2))] H := hP
  have hD : va_D A [(ot, .inr (10, [.ref at1, .ref at2, .ref at3, .int lt])), (at1, .inl (cI, 256, .inl f_1)), (at3, .inl (cI, 512, .inl f_2))] := hD
  refine lv_aload_n hx hb dX10_empty_16 rfl (lv_at hl 0 rfl) ?_
  refine lv_iconst (v := 0) hx hb dX10_empty_17 (by decide) ?_
  refine va_put (D := (dC, dI)) (ci := 10) (v := .int 0) (ty := .int) (C := RX10) (T := TX10) (N := 4) hx hb hts in_X10 tyX10 tyX10_ok nmX10 hown hK hP hD hS 0 rfl rfl 3 (by decide) (hts (.fieldLink RX10 27 "TextMender$ToldCode" "length" "I") (List.mem_of_getElem? (i := 3) rfl)) (fun _ h9 => h9) rfl (by decide +kernel) rfl rfl (Nat.le_of_ble_eq_true rfl) dX10_empty_18 (fun H locs hP hD hS => ?_)
  have hP : va_P (dC, dI) vwCl [(ot, .inr (10, [.ref at1, .ref at2, .ref at3, .int 0])), (at1, .inl (cI, 256, .inl f_1)), (at3, .inl (cI, 512, .inl f_2))] H := hP
  have hD : va_D A [(ot, .inr (10, [.ref at1, .ref at2, .ref at3, .int 0])), (at1, .inl (cI, 256, .inl f_1)), (at3, .inl (cI, 512, .inl f_2))] := hD
  have hP9 := hP.sub (ws' := [(ot, .inr (10, [.ref at1, .ref at2, .ref at3, .int 0])), (at1, .inl (cI, 256, .inl f_1)), (at3, .inl (cI, 512, .inl f_2))]) [0, 1, 2] rfl
  have hD9 := hD.sub (ws' := [(ot, .inr (10, [.ref at1, .ref at2, .ref at3, .int 0])), (at1, .inl (cI, 256, .inl f_1)), (at3, .inl (cI, 512, .inl f_2))]) [0, 1, 2] (by decide) rfl
  rw [hQQ]
  exact W.vret hx hb hr (fun t ht hW => ⟨⟨(), rfl, trivial, ⟨0, f_1, f_2, by rw [ht]; exact hP9, hD9, rfl, hf1_0, hf2_0⟩⟩, hS.F ht⟩) hS.2.2 dX10_empty_21

set_option maxHeartbeats 40000000 in
set_option maxRecDepth 100000 in
theorem m_X10_letterFor (l : Launch) (dC : Nat → ClassId) (dI : Nat → Nat → Nat) (cI cS : ClassId) (sz : Nat) (ot : Nat) (at1 : Nat) (at2 : Nat) (at3 : Nat) (lt : Int32) (ft1 : Nat → Int32) (v : Int32)  : Met l yX10_letterFor wsX10_letterFor ({ frames := 0, cells := 0, slots := 0, locals := 0 } : Room) (va_Pc [.ref ot, .int v] (fun U => U.heap.size = sz ∧ va_P (dC, dI) vwCl [(ot, .inr (10, [.ref at1, .ref at2, .ref at3, .int lt])), (at1, .inl (cI, 256, .inl ft1))] U.heap ∧ va_K (dC, dI) vwCl [(cI, .int), (cS, .short)] U ∧ va_D (fun _ => True) [(ot, .inr (10, [.ref at1, .ref at2, .ref at3, .int lt])), (at1, .inl (cI, 256, .inl ft1))])) (va_Qi (fun (r : Int32) (u : Int32) => r = u) (fun (r : Int32) t => va_P (dC, dI) vwCl [(ot, .inr (10, [.ref at1, .ref at2, .ref at3, .int lt])), (at1, .inl (cI, 256, .inl ft1))] t.heap ∧ va_D (va_A [(ot, .inr (10, [.ref at1, .ref at2, .ref at3, .int lt])), (at1, .inl (cI, 256, .inl ft1))] sz) [(ot, .inr (10, [.ref at1, .ref at2, .ref at3, .int lt])), (at1, .inl (cI, 256, .inl ft1))] ∧ (F_get 256 v r ft1)) (va_A [(ot, .inr (10, [.ref at1, .ref at2, .ref at3, .int lt])), (at1, .inl (cI, 256, .inl ft1))] sz)) 0 0 (va_A [(ot, .inr (10, [.ref at1, .ref at2, .ref at3, .int lt])), (at1, .inl (cI, 256, .inl ft1))] sz) := by
  refine Met.ofW (cc := cX10_letterFor) (maxL := 2) (ret := (some .int)) (by decide) rfl ?_
  intro p e s m args below meth c s₁ B hml hv
  obtain ⟨rfl, hsz, hP, hK, hD0⟩ := hv
  have hx := B.exec
  have hb := B.bytes
  have hr := B.returns
  have hts := atoms_spec (ws := wsX10_letterFor) B.pre
  have hown : s.vm.findClass RX10 = some m.cls := findClass_of_methodNamed B.named
  have hlocks := B.notSynchronized
  have in_X10 : ∀ w ∈ wsX100, w ∈ wsX10_letterFor := fun _ h => List.mem_cons_of_mem _ (List.mem_append_right _ (h))
  subst hsz
  have hD := hD0.self (sz := s.heap.size)
  generalize hAe : va_A [(ot, .inr (10, [.ref at1, .ref at2, .ref at3, .int lt])), (at1, .inl (cI, 256, .inl ft1))] s.heap.size = A at hD ⊢
  have hA : ∀ q : Nat, s.heap.size ≤ q → A q := fun q h => by rw [← hAe]; exact Or.inr h
  have hS : va_S A s.heap s.heap [] := va_S.rf
  have hP : va_P (dC, dI) vwCl [(ot, .inr (10, [.ref at1, .ref at2, .ref at3, .int lt])), (at1, .inl (cI, 256, .inl ft1))] s.heap := hP
  have hl := lv_entry ([.ref ot, .int v]) (n := 2) (Nat.le_of_ble_eq_true rfl)
  rw [lg_entry_eq]
  generalize (lg_sl ([.ref ot, .int v]) ++ List.replicate (2 - (lg_sl ([.ref ot, .int v])).length) Slot.unset).toArray = ls at hl ⊢
  have hl : lv_has ls 2 [(0, .ref ot), (1, .int v)] := hl
  obtain ⟨QQ, hQQ⟩ : ∃ QQ : Array Value → State → Outcome → State → Prop, QQ = va_Qi (fun (r : Int32) (u : Int32) => r = u) (fun (r : Int32) t => va_P (dC, dI) vwCl [(ot, .inr (10, [.ref at1, .ref at2, .ref at3, .int lt])), (at1, .inl (cI, 256, .inl ft1))] t.heap ∧ va_D A [(ot, .inr (10, [.ref at1, .ref at2, .ref at3, .int lt])), (at1, .inl (cI, 256, .inl ft1))] ∧ (F_get 256 v r ft1)) A := ⟨_, rfl⟩
  rw [← hQQ]
  refine lv_iload_n hx hb dX10_letterFor_0 rfl (lv_at hl 1 rfl) ?_
  refine lv_if_lt (tgt := 20) hx hb dX10_letterFor_1 (by decide) (fun c_1 => ?_) (fun c_1 => ?_)
  · have tc_1 : v.toInt < 0 := v_lt c_1
    refine lv_iconst (v := (-1)) hx hb dX10_letterFor_20 (by decide) ?_
    have hP9 := hP.sub (ws' := [(ot, .inr (10, [.ref at1, .ref at2, .ref at3, .int lt])), (at1, .inl (cI, 256, .inl ft1))]) [0, 1] rfl
    have hD9 := hD.sub (ws' := [(ot, .inr (10, [.ref at1, .ref at2, .ref at3, .int lt])), (at1, .inl (cI, 256, .inl ft1))]) [0, 1] (by decide) rfl
    rw [hQQ]
    exact W.iret (v := (-1)) hx hb hr (fun t ht hW => ⟨⟨(-1), (-1), rfl, rfl, ⟨by rw [ht]; exact hP9, hD9, by first | exact Or.inl ⟨by omega, by show v.toInt < 256; omega, by assumption⟩ | exact Or.inr ⟨Or.inl (by omega), rfl⟩ | exact Or.inr ⟨Or.inr (by show (256 : Int) ≤ v.toInt; omega), rfl⟩⟩⟩, hS.F ht⟩) hS.2.2 dX10_letterFor_21
  · have tc_1 : 0 ≤ v.toInt := v_nlt c_1
    refine lv_iload_n hx hb dX10_letterFor_4 rfl (lv_at hl 1 rfl) ?_
    refine lv_sipush (v := 256) hx hb dX10_letterFor_5 (by decide) ?_
    refine lv_icmp_ge (tgt := 20) hx hb dX10_letterFor_8 (by decide) (fun c_2 => ?_) (fun c_2 => ?_)
    · have tc_2 : 256 ≤ v.toInt := v_le c_2
      refine lv_iconst (v := (-1)) hx hb dX10_letterFor_20 (by decide) ?_
      have hP9 := hP.sub (ws' := [(ot, .inr (10, [.ref at1, .ref at2, .ref at3, .int lt])), (at1, .inl (cI, 256, .inl ft1))]) [0, 1] rfl
      have hD9 := hD.sub (ws' := [(ot, .inr (10, [.ref at1, .ref at2, .ref at3, .int lt])), (at1, .inl (cI, 256, .inl ft1))]) [0, 1] (by decide) rfl
      rw [hQQ]
      exact W.iret (v := (-1)) hx hb hr (fun t ht hW => ⟨⟨(-1), (-1), rfl, rfl, ⟨by rw [ht]; exact hP9, hD9, by first | exact Or.inl ⟨by omega, by show v.toInt < 256; omega, by assumption⟩ | exact Or.inr ⟨Or.inl (by omega), rfl⟩ | exact Or.inr ⟨Or.inr (by show (256 : Int) ≤ v.toInt; omega), rfl⟩⟩⟩, hS.F ht⟩) hS.2.2 dX10_letterFor_21
    · have tc_2 : v.toInt < 256 := v_nle c_2
      refine lv_aload_n hx hb dX10_letterFor_11 rfl (lv_at hl 0 rfl) ?_
      refine va_get (D := (dC, dI)) (ci := 10) (v := .ref at1) (C := RX10) (T := TX10) (N := 4) hx hb hts in_X10 hown hK hP 0 rfl rfl 0 (by decide) (hts (.fieldLink RX10 9 "TextMender$ToldCode" "letterOf" "[I") (List.mem_of_getElem? (i := 1) rfl)) (fun _ h9 => h9) rfl dX10_letterFor_12 ?_
      refine lv_iload_n hx hb dX10_letterFor_15 rfl (lv_at hl 1 rfl) ?_
      refine va_iald hx hb hK hP 1 0 rfl rfl (v_in (by omega)) dX10_letterFor_16 ?_
      refine lv_topi (fun x_3 ex_3 => ?_)
      refine lv_goto (tgt := 21) hx hb dX10_letterFor_17 (by decide) ?_
      have hP9 := hP.sub (ws' := [(ot, .inr (10, [.ref at1, .ref at2, .ref at3, .int lt])), (at1, .inl (cI, 256, .inl ft1))]) [0, 1] rfl
      have hD9 := hD.sub (ws' := [(ot, .inr (10, [.ref at1, .ref at2, .ref at3, .int lt])), (at1, .inl (cI, 256, .inl ft1))]) [0, 1] (by decide) rfl
      rw [hQQ]
      exact W.iret (v := x_3) hx hb hr (fun t ht hW => ⟨⟨x_3, x_3, rfl, rfl, ⟨by rw [ht]; exact hP9, hD9, by first | exact Or.inl ⟨by omega, by show v.toInt < 256; omega, by assumption⟩ | exact Or.inr ⟨Or.inl (by omega), rfl⟩ | exact Or.inr ⟨Or.inr (by show (256 : Int) ≤ v.toInt; omega), rfl⟩⟩⟩, hS.F ht⟩) hS.2.2 dX10_letterFor_21

set_option maxHeartbeats 40000000 in
set_option maxRecDepth 100000 in
theorem m_X10_placeFor (l : Launch) (dC : Nat → ClassId) (dI : Nat → Nat → Nat) (cI cS : ClassId) (sz : Nat) (ot : Nat) (at1 : Nat) (at2 : Nat) (at3 : Nat) (lt : Int32) (ft2 : Nat → Int32) (ft3 : Nat → Int32) (le : Int32)  : Met l yX10_placeFor wsX10_placeFor ({ frames := 0, cells := 0, slots := 0, locals := 0 } : Room) (va_Pc [.ref ot, .int le] (fun U => U.heap.size = sz ∧ va_P (dC, dI) vwCl [(ot, .inr (10, [.ref at1, .ref at2, .ref at3, .int lt])), (at2, .inl (cI, 512, .inl ft2)), (at3, .inl (cI, 512, .inl ft3))] U.heap ∧ va_K (dC, dI) vwCl [(cI, .int), (cS, .short)] U ∧ va_D (fun _ => True) [(ot, .inr (10, [.ref at1, .ref at2, .ref at3, .int lt])), (at2, .inl (cI, 512, .inl ft2)), (at3, .inl (cI, 512, .inl ft3))])) (va_Qi (fun (r : Int32) (u : Int32) => r = u) (fun (r : Int32) t => va_P (dC, dI) vwCl [(ot, .inr (10, [.ref at1, .ref at2, .ref at3, .int lt])), (at2, .inl (cI, 512, .inl ft2)), (at3, .inl (cI, 512, .inl ft3))] t.heap ∧ va_D (va_A [(ot, .inr (10, [.ref at1, .ref at2, .ref at3, .int lt])), (at2, .inl (cI, 512, .inl ft2)), (at3, .inl (cI, 512, .inl ft3))] sz) [(ot, .inr (10, [.ref at1, .ref at2, .ref at3, .int lt])), (at2, .inl (cI, 512, .inl ft2)), (at3, .inl (cI, 512, .inl ft3))] ∧ (-1 ≤ r.toInt ∧ r.toInt ≤ 511)) (va_A [(ot, .inr (10, [.ref at1, .ref at2, .ref at3, .int lt])), (at2, .inl (cI, 512, .inl ft2)), (at3, .inl (cI, 512, .inl ft3))] sz)) 0 0 (va_A [(ot, .inr (10, [.ref at1, .ref at2, .ref at3, .int lt])), (at2, .inl (cI, 512, .inl ft2)), (at3, .inl (cI, 512, .inl ft3))] sz) := by
  refine Met.ofW (cc := cX10_placeFor) (maxL := 5) (ret := (some .int)) (by decide) rfl ?_
  intro p e s m args below meth c s₁ B hml hv
  obtain ⟨rfl, hsz, hP, hK, hD0⟩ := hv
  have hx := B.exec
  have hb := B.bytes
  have hr := B.returns
  have hts := atoms_spec (ws := wsX10_placeFor) B.pre
  have hown : s.vm.findClass RX10 = some m.cls := findClass_of_methodNamed B.named
  have hlocks := B.notSynchronized
  have in_X10 : ∀ w ∈ wsX100, w ∈ wsX10_placeFor := fun _ h => List.mem_cons_of_mem _ (List.mem_append_right _ (h))
  subst hsz
  have hD := hD0.self (sz := s.heap.size)
  generalize hAe : va_A [(ot, .inr (10, [.ref at1, .ref at2, .ref at3, .int lt])), (at2, .inl (cI, 512, .inl ft2)), (at3, .inl (cI, 512, .inl ft3))] s.heap.size = A at hD ⊢
  have hA : ∀ q : Nat, s.heap.size ≤ q → A q := fun q h => by rw [← hAe]; exact Or.inr h
  have hS : va_S A s.heap s.heap [] := va_S.rf
  have hP : va_P (dC, dI) vwCl [(ot, .inr (10, [.ref at1, .ref at2, .ref at3, .int lt])), (at2, .inl (cI, 512, .inl ft2)), (at3, .inl (cI, 512, .inl ft3))] s.heap := hP
  have hl := lv_entry ([.ref ot, .int le]) (n := 5) (Nat.le_of_ble_eq_true rfl)
  rw [lg_entry_eq]
  generalize (lg_sl ([.ref ot, .int le]) ++ List.replicate (5 - (lg_sl ([.ref ot, .int le])).length) Slot.unset).toArray = ls at hl ⊢
  have hl : lv_has ls 5 [(0, .ref ot), (1, .int le)] := hl
  obtain ⟨QQ, hQQ⟩ : ∃ QQ : Array Value → State → Outcome → State → Prop, QQ = va_Qi (fun (r : Int32) (u : Int32) => r = u) (fun (r : Int32) t => va_P (dC, dI) vwCl [(ot, .inr (10, [.ref at1, .ref at2, .ref at3, .int lt])), (at2, .inl (cI, 512, .inl ft2)), (at3, .inl (cI, 512, .inl ft3))] t.heap ∧ va_D A [(ot, .inr (10, [.ref at1, .ref at2, .ref at3, .int lt])), (at2, .inl (cI, 512, .inl ft2)), (at3, .inl (cI, 512, .inl ft3))] ∧ (-1 ≤ r.toInt ∧ r.toInt ≤ 511)) A := ⟨_, rfl⟩
  rw [← hQQ]
  refine lv_iload_n hx hb dX10_placeFor_0 rfl (lv_at hl 1 rfl) ?_
  refine lv_ldc hx hb hown (hts (.constant RX10 45 (-1640531535)) (List.mem_of_getElem? (i := 1) rfl)) dX10_placeFor_1 ?_
  refine lv_imul hx hb dX10_placeFor_3 ?_
  refine lv_topi (fun x_1 ex_1 => ?_)
  have rv1_0 := v_rng le
  refine lv_bipush (v := 23) hx hb dX10_placeFor_4 (by decide) ?_
  obtain ⟨x_2, ex_2⟩ : ∃ v : Int32, v = ((x_1 : Int32).toUInt32 >>> ((23 : Int32).toUInt32 &&& Int32.toUInt32 31)).toInt32 := ⟨_, rfl⟩
  refine lv_iushr (v := x_2) hx hb dX10_placeFor_6 ex_2.symm ?_
  have tx_2 : 0 ≤ x_2.toInt ∧ x_2.toInt < 512 := v_ushr 23 ex_2 (by decide) (by decide) (by decide)
  refine lv_istore_n (lv' := [(2, .int x_2), (0, .ref ot), (1, .int le)]) hx hb dX10_placeFor_7 rfl hl (by decide) rfl (fun ls hl => ?_)
  refine lv_iconst (v := 0) hx hb dX10_placeFor_8 (by decide) ?_
  refine lv_istore_n (lv' := [(3, .int 0), (2, .int x_2), (0, .ref ot), (1, .int le)]) hx hb dX10_placeFor_9 rfl hl (by decide) rfl (fun ls hl => ?_)
  have LOOP_10 : ∀ (k_10 : Nat) (k : Int32) (H : Heap) (locs : List Loc) (ls : Array Slot), (512 - k.toInt : Int).toNat < k_10 → (0 ≤ k.toInt ∧ k.toInt ≤ 512) → va_P (dC, dI) vwCl [(ot, .inr (10, [.ref at1, .ref at2, .ref at3, .int lt])), (at2, .inl (cI, 512, .inl ft2)), (at3, .inl (cI, 512, .inl ft3))] H → va_D A [(ot, .inr (10, [.ref at1, .ref at2, .ref at3, .int lt])), (at2, .inl (cI, 512, .inl ft2)), (at3, .inl (cI, 512, .inl ft3))] → va_S A s.heap H locs → lv_has ls 5 [(3, .int k), (2, .int x_2), (0, .ref ot), (1, .int le)] → W p l e (headSpec wsX10_placeFor ({ frames := 0, cells := 0, slots := 0, locals := 0 } : Room)).room s m ([.ref ot, .int le] : List Value).toArray below meth c H locs 0 0 (MQ below QQ ([.ref ot, .int le] : List Value).toArray s 0 0 A) (F0 m 10 ls []) := by
    intro k_10
    induction k_10 with
    | zero =>
      intro k H locs ls hm_10 g_k hP hD hS hl
      exact absurd hm_10 (Nat.not_lt_zero _)
    | succ k_10 ih_10 =>
      intro k H locs ls hm_10 g_k hP hD hS hl
      refine lv_iload_n hx hb dX10_placeFor_10 rfl (lv_at hl 0 rfl) ?_
      refine lv_sipush (v := 512) hx hb dX10_placeFor_11 (by decide) ?_
      refine lv_icmp_ge (tgt := 57) hx hb dX10_placeFor_14 (by decide) (fun c_3 => ?_) (fun c_3 => ?_)
      · have tc_3 : 512 ≤ k.toInt := v_le c_3
        refine lv_iconst (v := (-1)) hx hb dX10_placeFor_57 (by decide) ?_
        have hP9 := hP.sub (ws' := [(ot, .inr (10, [.ref at1, .ref at2, .ref at3, .int lt])), (at2, .inl (cI, 512, .inl ft2)), (at3, .inl (cI, 512, .inl ft3))]) [0, 1, 2] rfl
        have hD9 := hD.sub (ws' := [(ot, .inr (10, [.ref at1, .ref at2, .ref at3, .int lt])), (at2, .inl (cI, 512, .inl ft2)), (at3, .inl (cI, 512, .inl ft3))]) [0, 1, 2] (by decide) rfl
        rw [hQQ]
        exact W.iret (v := (-1)) hx hb hr (fun t ht hW => ⟨⟨(-1), (-1), rfl, rfl, ⟨by rw [ht]; exact hP9, hD9, by decide⟩⟩, hS.F ht⟩) hS.2.2 dX10_placeFor_58
      · have tc_3 : k.toInt < 512 := v_nle c_3
        refine lv_iload_n hx hb dX10_placeFor_17 rfl (lv_at hl 1 rfl) ?_
        refine lv_iload_n hx hb dX10_placeFor_18 rfl (lv_at hl 0 rfl) ?_
        refine lv_iadd hx hb dX10_placeFor_19 ?_
        refine lv_topi (fun x_4 ex_4 => ?_)
        have tx_4 : x_4.toInt = x_2.toInt + k.toInt := v_add ex_4 (by show -2147483648 ≤ x_2.toInt + k.toInt; omega) (by show x_2.toInt + k.toInt < 2147483648; omega)
        refine lv_sipush (v := 511) hx hb dX10_placeFor_20 (by decide) ?_
        refine lv_iand hx hb dX10_placeFor_23 ?_
        refine lv_topi (fun x_5 ex_5 => ?_)
        have tx_5 : 0 ≤ x_5.toInt ∧ x_5.toInt < 512 := v_and 9 ex_5 (by decide) (by decide)
        refine lv_istore (lv' := [(4, .int x_5), (3, .int k), (2, .int x_2), (0, .ref ot), (1, .int le)]) hx hb dX10_placeFor_24 hl (by decide) rfl (fun ls hl => ?_)
        refine lv_aload_n hx hb dX10_placeFor_26 rfl (lv_at hl 3 rfl) ?_
        refine va_get (D := (dC, dI)) (ci := 10) (v := .ref at3) (C := RX10) (T := TX10) (N := 4) hx hb hts in_X10 hown hK hP 0 rfl rfl 2 (by decide) (hts (.fieldLink RX10 18 "TextMender$ToldCode" "placeByte" "[I") (List.mem_of_getElem? (i := 2) rfl)) (fun _ h9 => h9) rfl dX10_placeFor_27 ?_
        refine lv_iload hx hb dX10_placeFor_30 (lv_at hl 0 rfl) ?_
        refine va_iald hx hb hK hP 2 0 rfl rfl (v_in (by omega)) dX10_placeFor_32 ?_
        refine lv_topi (fun x_6 ex_6 => ?_)
        refine lv_iconst (v := (-1)) hx hb dX10_placeFor_33 (by decide) ?_
        refine lv_icmp_eq (tgt := 48) hx hb dX10_placeFor_34 (by decide) (fun c_7 => ?_) (fun c_7 => ?_)
        · have tc_7 : x_6.toInt = (-1) := v_eq c_7
          refine lv_iload hx hb dX10_placeFor_48 (lv_at hl 0 rfl) ?_
          have hP9 := hP.sub (ws' := [(ot, .inr (10, [.ref at1, .ref at2, .ref at3, .int lt])), (at2, .inl (cI, 512, .inl ft2)), (at3, .inl (cI, 512, .inl ft3))]) [0, 1, 2] rfl
          have hD9 := hD.sub (ws' := [(ot, .inr (10, [.ref at1, .ref at2, .ref at3, .int lt])), (at2, .inl (cI, 512, .inl ft2)), (at3, .inl (cI, 512, .inl ft3))]) [0, 1, 2] (by decide) rfl
          rw [hQQ]
          exact W.iret (v := x_5) hx hb hr (fun t ht hW => ⟨⟨x_5, x_5, rfl, rfl, ⟨by rw [ht]; exact hP9, hD9, by omega⟩⟩, hS.F ht⟩) hS.2.2 dX10_placeFor_50
        · have tc_7 : ¬ x_6.toInt = (-1) := v_ne c_7
          refine lv_aload_n hx hb dX10_placeFor_37 rfl (lv_at hl 3 rfl) ?_
          refine va_get (D := (dC, dI)) (ci := 10) (v := .ref at2) (C := RX10) (T := TX10) (N := 4) hx hb hts in_X10 hown hK hP 0 rfl rfl 1 (by decide) (hts (.fieldLink RX10 15 "TextMender$ToldCode" "placeLetter" "[I") (List.mem_of_getElem? (i := 3) rfl)) (fun _ h9 => h9) rfl dX10_placeFor_38 ?_
          refine lv_iload hx hb dX10_placeFor_41 (lv_at hl 0 rfl) ?_
          refine va_iald hx hb hK hP 1 0 rfl rfl (v_in (by omega)) dX10_placeFor_43 ?_
          refine lv_topi (fun x_8 ex_8 => ?_)
          refine lv_iload_n hx hb dX10_placeFor_44 rfl (lv_at hl 4 rfl) ?_
          refine lv_icmp_ne (tgt := 51) hx hb dX10_placeFor_45 (by decide) (fun c_9 => ?_) (fun c_9 => ?_)
          · have tc_9 : ¬ x_8.toInt = le.toInt := v_ne c_9
            have rw9_0 := v_rng x_8
            obtain ⟨x_10, ex_10⟩ : ∃ y : Int32, y = k + 1 := ⟨_, rfl⟩
            have tx_10 : x_10.toInt = k.toInt + 1 := v_add ex_10 (by show -2147483648 ≤ k.toInt + 1; omega) (by show k.toInt + 1 < 2147483648; omega)
            refine lv_iinc (v := x_10) (lv' := [(3, .int x_10), (4, .int x_5), (2, .int x_2), (0, .ref ot), (1, .int le)]) hx hb dX10_placeFor_51 hl (k := 1) rfl (by rw [ex_10]; rfl) (by decide) rfl (fun ls hl => ?_)
            refine lv_goto (tgt := 10) hx hb dX10_placeFor_54 (by decide) ?_
            exact ih_10 x_10 _ _ _ (by have hm9 := hm_10; show ((512 - x_10.toInt : Int)).toNat < k_10; omega) (by show 0 ≤ x_10.toInt ∧ x_10.toInt ≤ 512; omega) hP hD hS (lv_sub hl [0, 2, 3, 4] rfl)
          · have tc_9 : x_8.toInt = le.toInt := v_eq c_9
            have rw9_0 := v_rng x_8
            refine lv_iload hx hb dX10_placeFor_48 (lv_at hl 0 rfl) ?_
            have hP9 := hP.sub (ws' := [(ot, .inr (10, [.ref at1, .ref at2, .ref at3, .int lt])), (at2, .inl (cI, 512, .inl ft2)), (at3, .inl (cI, 512, .inl ft3))]) [0, 1, 2] rfl
            have hD9 := hD.sub (ws' := [(ot, .inr (10, [.ref at1, .ref at2, .ref at3, .int lt])), (at2, .inl (cI, 512, .inl ft2)), (at3, .inl (cI, 512, .inl ft3))]) [0, 1, 2] (by decide) rfl
            rw [hQQ]
            exact W.iret (v := x_5) hx hb hr (fun t ht hW => ⟨⟨x_5, x_5, rfl, rfl, ⟨by rw [ht]; exact hP9, hD9, by omega⟩⟩, hS.F ht⟩) hS.2.2 dX10_placeFor_50
  exact LOOP_10 _ 0 _ _ _ (Nat.lt_succ_self _) (by decide) hP hD hS (lv_sub hl [0, 1, 2, 3] rfl)

set_option maxHeartbeats 40000000 in
set_option maxRecDepth 100000 in
theorem m_X10_byteFor (l : Launch) (dC : Nat → ClassId) (dI : Nat → Nat → Nat) (cI cS : ClassId) (sz : Nat) (ot : Nat) (at1 : Nat) (at2 : Nat) (at3 : Nat) (lt : Int32) (ft2 : Nat → Int32) (ft3 : Nat → Int32) (le : Int32)  : Met l yX10_byteFor wsX10_byteFor ({ frames := 1, cells := 0, slots := 0, locals := 24 } : Room) (va_Pc [.ref ot, .int le] (fun U => U.heap.size = sz ∧ va_P (dC, dI) vwCl [(ot, .inr (10, [.ref at1, .ref at2, .ref at3, .int lt])), (at2, .inl (cI, 512, .inl ft2)), (at3, .inl (cI, 512, .inl ft3))] U.heap ∧ va_K (dC, dI) vwCl [(cI, .int), (cS, .short)] U ∧ va_D (fun _ => True) [(ot, .inr (10, [.ref at1, .ref at2, .ref at3, .int lt])), (at2, .inl (cI, 512, .inl ft2)), (at3, .inl (cI, 512, .inl ft3))])) (va_Qi (fun (r : Int32) (u : Int32) => r = u) (fun (r : Int32) t => va_P (dC, dI) vwCl [(ot, .inr (10, [.ref at1, .ref at2, .ref at3, .int lt])), (at2, .inl (cI, 512, .inl ft2)), (at3, .inl (cI, 512, .inl ft3))] t.heap ∧ va_D (va_A [(ot, .inr (10, [.ref at1, .ref at2, .ref at3, .int lt])), (at2, .inl (cI, 512, .inl ft2)), (at3, .inl (cI, 512, .inl ft3))] sz) [(ot, .inr (10, [.ref at1, .ref at2, .ref at3, .int lt])), (at2, .inl (cI, 512, .inl ft2)), (at3, .inl (cI, 512, .inl ft3))]) (va_A [(ot, .inr (10, [.ref at1, .ref at2, .ref at3, .int lt])), (at2, .inl (cI, 512, .inl ft2)), (at3, .inl (cI, 512, .inl ft3))] sz)) 0 0 (va_A [(ot, .inr (10, [.ref at1, .ref at2, .ref at3, .int lt])), (at2, .inl (cI, 512, .inl ft2)), (at3, .inl (cI, 512, .inl ft3))] sz) := by
  refine Met.ofW (cc := cX10_byteFor) (maxL := 3) (ret := (some .int)) (by decide) rfl ?_
  intro p e s m args below meth c s₁ B hml hv
  obtain ⟨rfl, hsz, hP, hK, hD0⟩ := hv
  have hx := B.exec
  have hb := B.bytes
  have hr := B.returns
  have hts := atoms_spec (ws := wsX10_byteFor) B.pre
  have hown : s.vm.findClass RX10 = some m.cls := findClass_of_methodNamed B.named
  have hlocks := B.notSynchronized
  have in_X10 : ∀ w ∈ wsX100, w ∈ wsX10_byteFor := fun _ h => List.mem_cons_of_mem _ (List.mem_append_right _ (h))
  subst hsz
  have hD := hD0.self (sz := s.heap.size)
  generalize hAe : va_A [(ot, .inr (10, [.ref at1, .ref at2, .ref at3, .int lt])), (at2, .inl (cI, 512, .inl ft2)), (at3, .inl (cI, 512, .inl ft3))] s.heap.size = A at hD ⊢
  have hA : ∀ q : Nat, s.heap.size ≤ q → A q := fun q h => by rw [← hAe]; exact Or.inr h
  have hS : va_S A s.heap s.heap [] := va_S.rf
  have hP : va_P (dC, dI) vwCl [(ot, .inr (10, [.ref at1, .ref at2, .ref at3, .int lt])), (at2, .inl (cI, 512, .inl ft2)), (at3, .inl (cI, 512, .inl ft3))] s.heap := hP
  have hl := lv_entry ([.ref ot, .int le]) (n := 3) (Nat.le_of_ble_eq_true rfl)
  rw [lg_entry_eq]
  generalize (lg_sl ([.ref ot, .int le]) ++ List.replicate (3 - (lg_sl ([.ref ot, .int le])).length) Slot.unset).toArray = ls at hl ⊢
  have hl : lv_has ls 3 [(0, .ref ot), (1, .int le)] := hl
  obtain ⟨QQ, hQQ⟩ : ∃ QQ : Array Value → State → Outcome → State → Prop, QQ = va_Qi (fun (r : Int32) (u : Int32) => r = u) (fun (r : Int32) t => va_P (dC, dI) vwCl [(ot, .inr (10, [.ref at1, .ref at2, .ref at3, .int lt])), (at2, .inl (cI, 512, .inl ft2)), (at3, .inl (cI, 512, .inl ft3))] t.heap ∧ va_D A [(ot, .inr (10, [.ref at1, .ref at2, .ref at3, .int lt])), (at2, .inl (cI, 512, .inl ft2)), (at3, .inl (cI, 512, .inl ft3))]) A := ⟨_, rfl⟩
  rw [← hQQ]
  refine lv_aload_n hx hb dX10_byteFor_0 rfl (lv_at hl 0 rfl) ?_
  refine lv_iload_n hx hb dX10_byteFor_1 rfl (lv_at hl 1 rfl) ?_
  have hPc := hP.sub (ws' := [(ot, .inr (10, [.ref at1, .ref at2, .ref at3, .int lt])), (at2, .inl (cI, 512, .inl ft2)), (at3, .inl (cI, 512, .inl ft3))]) [0, 1, 2] rfl
  have hDc := hD.sub (ws' := [(ot, .inr (10, [.ref at1, .ref at2, .ref at3, .int lt])), (at2, .inl (cI, 512, .inl ft2)), (at3, .inl (cI, 512, .inl ft3))]) [0, 1, 2] (by decide) rfl
  have hFc := va_free (wc := [(ot, .inr (10, [.ref at1, .ref at2, .ref at3, .int lt])), (at2, .inl (cI, 512, .inl ft2)), (at3, .inl (cI, 512, .inl ft3))]) hD hS hA [0, 1, 2] rfl
  refine va_calli (va_runV (As := [.int le]) (rest := []) ⟨hx, hb, hml, hown, hts⟩ (m_X10_placeFor l dC dI cI cS s.heap.size ot at1 at2 at3 lt ft2 ft3 le ) (cwV 1 hts gX10_byteFor_X10_placeFor rfl rfl rfl (by decide +kernel) ⟨Nat.le_of_ble_eq_true rfl, Nat.le_of_ble_eq_true rfl⟩) ⟨fun a U g mk q => by obtain ⟨q0, q1, qP, qK, qD⟩ := q; exact ⟨q0, q1, qP, va_K.moved (u := U) (U := U.calling g mk a) (Vm.Alike.refl U.vm) qK, qD⟩, va_recv hK hPc (ci := 10) (q0 := 0) rfl rfl, fun U hU hW => ⟨rfl, by rw [hU], by rw [hU]; exact hPc, va_K.moved hW.alike hK, hDc.weaken (fun _ _ _ _ => trivial)⟩⟩ rfl rfl hl.1 rfl (lv_room (Nat.le_of_ble_eq_true rfl)) dX10_byteFor_2 ⟨Nat.le_of_ble_eq_true rfl, Nat.le_of_ble_eq_true rfl⟩) hS (fun q _ h => hFc q h) hFc (fun r_1 u t H1 locs ht hvm hw hB hz1 hk1 hS => ?_)
  subst hw
  obtain ⟨hP1, hD1, hf1_0⟩ := hB
  rw [ht] at hP1
  obtain ⟨hP, hD⟩ := va_join (wr := []) (w1 := [(ot, .inr (10, [.ref at1, .ref at2, .ref at3, .int lt])), (at2, .inl (cI, 512, .inl ft2)), (at3, .inl (cI, 512, .inl ft3))]) hP hD [0, 1, 2] [] rfl rfl (by decide) (by decide) hk1 hFc hP1 hD1
  generalize H1 = H at hP hS ⊢
  have hP : va_P (dC, dI) vwCl [(ot, .inr (10, [.ref at1, .ref at2, .ref at3, .int lt])), (at2, .inl (cI, 512, .inl ft2)), (at3, .inl (cI, 512, .inl ft3))] H := hP
  have hD : va_D A [(ot, .inr (10, [.ref at1, .ref at2, .ref at3, .int lt])), (at2, .inl (cI, 512, .inl ft2)), (at3, .inl (cI, 512, .inl ft3))] := hD
  refine lv_istore_n (lv' := [(2, .int r_1), (0, .ref ot), (1, .int le)]) hx hb dX10_byteFor_5 rfl hl (by decide) rfl (fun ls hl => ?_)
  refine lv_iload_n hx hb dX10_byteFor_6 rfl (lv_at hl 0 rfl) ?_
  refine lv_iconst (v := (-1)) hx hb dX10_byteFor_7 (by decide) ?_
  refine lv_icmp_ne (tgt := 15) hx hb dX10_byteFor_8 (by decide) (fun c_2 => ?_) (fun c_2 => ?_)
  · have tc_2 : ¬ r_1.toInt = (-1) := v_ne c_2
    refine lv_aload_n hx hb dX10_byteFor_15 rfl (lv_at hl 1 rfl) ?_
    refine va_get (D := (dC, dI)) (ci := 10) (v := .ref at3) (C := RX10) (T := TX10) (N := 4) hx hb hts in_X10 hown hK hP 0 rfl rfl 2 (by decide) (hts (.fieldLink RX10 18 "TextMender$ToldCode" "placeByte" "[I") (List.mem_of_getElem? (i := 1) rfl)) (fun _ h9 => h9) rfl dX10_byteFor_16 ?_
    refine lv_iload_n hx hb dX10_byteFor_19 rfl (lv_at hl 0 rfl) ?_
    refine va_iald hx hb hK hP 2 0 rfl rfl (v_in (by omega)) dX10_byteFor_20 ?_
    refine lv_topi (fun x_3 ex_3 => ?_)
    have hP9 := hP.sub (ws' := [(ot, .inr (10, [.ref at1, .ref at2, .ref at3, .int lt])), (at2, .inl (cI, 512, .inl ft2)), (at3, .inl (cI, 512, .inl ft3))]) [0, 1, 2] rfl
    have hD9 := hD.sub (ws' := [(ot, .inr (10, [.ref at1, .ref at2, .ref at3, .int lt])), (at2, .inl (cI, 512, .inl ft2)), (at3, .inl (cI, 512, .inl ft3))]) [0, 1, 2] (by decide) rfl
    rw [hQQ]
    exact W.iret (v := x_3) hx hb hr (fun t ht hW => ⟨⟨x_3, x_3, rfl, rfl, ⟨by rw [ht]; exact hP9, hD9⟩⟩, hS.F ht⟩) hS.2.2 dX10_byteFor_21
  · have tc_2 : r_1.toInt = (-1) := v_eq c_2
    refine lv_iconst (v := (-1)) hx hb dX10_byteFor_11 (by decide) ?_
    refine lv_goto (tgt := 21) hx hb dX10_byteFor_12 (by decide) ?_
    have hP9 := hP.sub (ws' := [(ot, .inr (10, [.ref at1, .ref at2, .ref at3, .int lt])), (at2, .inl (cI, 512, .inl ft2)), (at3, .inl (cI, 512, .inl ft3))]) [0, 1, 2] rfl
    have hD9 := hD.sub (ws' := [(ot, .inr (10, [.ref at1, .ref at2, .ref at3, .int lt])), (at2, .inl (cI, 512, .inl ft2)), (at3, .inl (cI, 512, .inl ft3))]) [0, 1, 2] (by decide) rfl
    rw [hQQ]
    exact W.iret (v := (-1)) hx hb hr (fun t ht hW => ⟨⟨(-1), (-1), rfl, rfl, ⟨by rw [ht]; exact hP9, hD9⟩⟩, hS.F ht⟩) hS.2.2 dX10_byteFor_21

set_option maxHeartbeats 40000000 in
set_option maxRecDepth 100000 in
theorem m_X11_isLetter (l : Launch) (dC : Nat → ClassId) (dI : Nat → Nat → Nat) (cI cS : ClassId) (sz : Nat) (x : Int32)  : Met l yX11_isLetter wsX11_isLetter ({ frames := 0, cells := 0, slots := 0, locals := 0 } : Room) (va_Pc [.int x] (fun U => U.heap.size = sz ∧ va_P (dC, dI) vwCl [] U.heap ∧ va_K (dC, dI) vwCl [(cI, .int), (cS, .short)] U ∧ va_D (fun _ => True) [])) (va_Qi (fun (r : Int32) (u : Int32) => r = u) (fun (r : Int32) t => va_P (dC, dI) vwCl [] t.heap ∧ va_D (va_A [] sz) [] ∧ (0 ≤ r.toInt ∧ r.toInt ≤ 1) ∧ ((r.toInt = 1 ∧ 0 ≤ x.toInt ∧ x.toInt ≤ 65535 ∧ (x.toInt < 55296 ∨ 57343 < x.toInt)) ∨ (r.toInt = 0 ∧ (x.toInt < 0 ∨ 65535 < x.toInt ∨ (55296 ≤ x.toInt ∧ x.toInt ≤ 57343))))) (va_A [] sz)) 0 0 (va_A [] sz) := by
  refine Met.ofW (cc := cX11_isLetter) (maxL := 1) (ret := (some .boolean)) (by decide) rfl ?_
  intro p e s m args below meth c s₁ B hml hv
  obtain ⟨rfl, hsz, hP, hK, hD0⟩ := hv
  have hx := B.exec
  have hb := B.bytes
  have hr := B.returns
  have hts := atoms_spec (ws := wsX11_isLetter) B.pre
  have hown : s.vm.findClass RX11 = some m.cls := findClass_of_methodNamed B.named
  have hlocks := B.notSynchronized
  subst hsz
  have hD := hD0.self (sz := s.heap.size)
  generalize hAe : va_A [] s.heap.size = A at hD ⊢
  have hA : ∀ q : Nat, s.heap.size ≤ q → A q := fun q h => by rw [← hAe]; exact Or.inr h
  have hS : va_S A s.heap s.heap [] := va_S.rf
  have hP : va_P (dC, dI) vwCl [] s.heap := hP
  have hl := lv_entry ([.int x]) (n := 1) (Nat.le_of_ble_eq_true rfl)
  rw [lg_entry_eq]
  generalize (lg_sl ([.int x]) ++ List.replicate (1 - (lg_sl ([.int x])).length) Slot.unset).toArray = ls at hl ⊢
  have hl : lv_has ls 1 [(0, .int x)] := hl
  obtain ⟨QQ, hQQ⟩ : ∃ QQ : Array Value → State → Outcome → State → Prop, QQ = va_Qi (fun (r : Int32) (u : Int32) => r = u) (fun (r : Int32) t => va_P (dC, dI) vwCl [] t.heap ∧ va_D A [] ∧ (0 ≤ r.toInt ∧ r.toInt ≤ 1) ∧ ((r.toInt = 1 ∧ 0 ≤ x.toInt ∧ x.toInt ≤ 65535 ∧ (x.toInt < 55296 ∨ 57343 < x.toInt)) ∨ (r.toInt = 0 ∧ (x.toInt < 0 ∨ 65535 < x.toInt ∨ (55296 ≤ x.toInt ∧ x.toInt ≤ 57343))))) A := ⟨_, rfl⟩
  rw [← hQQ]
  refine lv_iload_n hx hb dX11_isLetter_0 rfl (lv_at hl 0 rfl) ?_
  refine lv_if_lt (tgt := 29) hx hb dX11_isLetter_1 (by decide) (fun c_1 => ?_) (fun c_1 => ?_)
  · have tc_1 : x.toInt < 0 := v_lt c_1
    refine lv_iconst (v := 0) hx hb dX11_isLetter_29 (by decide) ?_
    have hP9 := hP.sub (ws' := []) [] rfl
    have hD9 := hD.sub (ws' := []) [] (by decide) rfl
    rw [hQQ]
    exact W.zret (v := 0) (ty := .boolean) hx hb hr (rfl) (fun t ht hW => ⟨⟨0, 0, rfl, rfl, ⟨by rw [ht]; exact hP9, hD9, by decide, by show (0 = 1 ∧ 0 ≤ x.toInt ∧ x.toInt ≤ 65535 ∧ (x.toInt < 55296 ∨ 57343 < x.toInt)) ∨ (0 = 0 ∧ (x.toInt < 0 ∨ 65535 < x.toInt ∨ (55296 ≤ x.toInt ∧ x.toInt ≤ 57343))); omega⟩⟩, hS.F ht⟩) hS.2.2 dX11_isLetter_30
  · have tc_1 : 0 ≤ x.toInt := v_nlt c_1
    refine lv_iload_n hx hb dX11_isLetter_4 rfl (lv_at hl 0 rfl) ?_
    refine lv_ldcw hx hb hown (hts (.constant RX11 262 (65535)) (List.mem_of_getElem? (i := 1) rfl)) dX11_isLetter_5 ?_
    refine lv_icmp_gt (tgt := 29) hx hb dX11_isLetter_8 (by decide) (fun c_2 => ?_) (fun c_2 => ?_)
    · have tc_2 : 65535 < x.toInt := v_lt c_2
      refine lv_iconst (v := 0) hx hb dX11_isLetter_29 (by decide) ?_
      have hP9 := hP.sub (ws' := []) [] rfl
      have hD9 := hD.sub (ws' := []) [] (by decide) rfl
      rw [hQQ]
      exact W.zret (v := 0) (ty := .boolean) hx hb hr (rfl) (fun t ht hW => ⟨⟨0, 0, rfl, rfl, ⟨by rw [ht]; exact hP9, hD9, by decide, by show (0 = 1 ∧ 0 ≤ x.toInt ∧ x.toInt ≤ 65535 ∧ (x.toInt < 55296 ∨ 57343 < x.toInt)) ∨ (0 = 0 ∧ (x.toInt < 0 ∨ 65535 < x.toInt ∨ (55296 ≤ x.toInt ∧ x.toInt ≤ 57343))); omega⟩⟩, hS.F ht⟩) hS.2.2 dX11_isLetter_30
    · have tc_2 : x.toInt ≤ 65535 := v_nlt c_2
      refine lv_iload_n hx hb dX11_isLetter_11 rfl (lv_at hl 0 rfl) ?_
      refine lv_ldcw hx hb hown (hts (.constant RX11 263 (55296)) (List.mem_of_getElem? (i := 2) rfl)) dX11_isLetter_12 ?_
      refine lv_icmp_lt (tgt := 25) hx hb dX11_isLetter_15 (by decide) (fun c_3 => ?_) (fun c_3 => ?_)
      · have tc_3 : x.toInt < 55296 := v_lt c_3
        refine lv_iconst (v := 1) hx hb dX11_isLetter_25 (by decide) ?_
        refine lv_goto (tgt := 30) hx hb dX11_isLetter_26 (by decide) ?_
        have hP9 := hP.sub (ws' := []) [] rfl
        have hD9 := hD.sub (ws' := []) [] (by decide) rfl
        rw [hQQ]
        exact W.zret (v := 1) (ty := .boolean) hx hb hr (rfl) (fun t ht hW => ⟨⟨1, 1, rfl, rfl, ⟨by rw [ht]; exact hP9, hD9, by decide, by show (1 = 1 ∧ 0 ≤ x.toInt ∧ x.toInt ≤ 65535 ∧ (x.toInt < 55296 ∨ 57343 < x.toInt)) ∨ (1 = 0 ∧ (x.toInt < 0 ∨ 65535 < x.toInt ∨ (55296 ≤ x.toInt ∧ x.toInt ≤ 57343))); omega⟩⟩, hS.F ht⟩) hS.2.2 dX11_isLetter_30
      · have tc_3 : 55296 ≤ x.toInt := v_nlt c_3
        refine lv_iload_n hx hb dX11_isLetter_18 rfl (lv_at hl 0 rfl) ?_
        refine lv_ldcw hx hb hown (hts (.constant RX11 264 (57343)) (List.mem_of_getElem? (i := 3) rfl)) dX11_isLetter_19 ?_
        refine lv_icmp_le (tgt := 29) hx hb dX11_isLetter_22 (by decide) (fun c_4 => ?_) (fun c_4 => ?_)
        · have tc_4 : x.toInt ≤ 57343 := v_le c_4
          refine lv_iconst (v := 0) hx hb dX11_isLetter_29 (by decide) ?_
          have hP9 := hP.sub (ws' := []) [] rfl
          have hD9 := hD.sub (ws' := []) [] (by decide) rfl
          rw [hQQ]
          exact W.zret (v := 0) (ty := .boolean) hx hb hr (rfl) (fun t ht hW => ⟨⟨0, 0, rfl, rfl, ⟨by rw [ht]; exact hP9, hD9, by decide, by show (0 = 1 ∧ 0 ≤ x.toInt ∧ x.toInt ≤ 65535 ∧ (x.toInt < 55296 ∨ 57343 < x.toInt)) ∨ (0 = 0 ∧ (x.toInt < 0 ∨ 65535 < x.toInt ∨ (55296 ≤ x.toInt ∧ x.toInt ≤ 57343))); omega⟩⟩, hS.F ht⟩) hS.2.2 dX11_isLetter_30
        · have tc_4 : 57343 < x.toInt := v_nle c_4
          refine lv_iconst (v := 1) hx hb dX11_isLetter_25 (by decide) ?_
          refine lv_goto (tgt := 30) hx hb dX11_isLetter_26 (by decide) ?_
          have hP9 := hP.sub (ws' := []) [] rfl
          have hD9 := hD.sub (ws' := []) [] (by decide) rfl
          rw [hQQ]
          exact W.zret (v := 1) (ty := .boolean) hx hb hr (rfl) (fun t ht hW => ⟨⟨1, 1, rfl, rfl, ⟨by rw [ht]; exact hP9, hD9, by decide, by show (1 = 1 ∧ 0 ≤ x.toInt ∧ x.toInt ≤ 65535 ∧ (x.toInt < 55296 ∨ 57343 < x.toInt)) ∨ (1 = 0 ∧ (x.toInt < 0 ∨ 65535 < x.toInt ∨ (55296 ≤ x.toInt ∧ x.toInt ≤ 57343))); omega⟩⟩, hS.F ht⟩) hS.2.2 dX11_isLetter_30
