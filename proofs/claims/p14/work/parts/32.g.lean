/-! 58.told -/
section
abbrev nTd (K V : Nat → Int32) : Int32 → Prop := nT K V

set_option maxHeartbeats 40000000 in
set_option maxRecDepth 100000 in
theorem f_X10_placeFor (l : Launch) (dC : Nat → ClassId) (dI : Nat → Nat → Nat) (cI cS : ClassId) (sz : Nat) (ot : Nat) (at1 : Nat) (at2 : Nat) (at3 : Nat) (lt : Int32) (ft2 : Nat → Int32) (ft3 : Nat → Int32) (le : Int32)  : Met l yX10_placeFor wsX10_placeFor ({ frames := 0, cells := 0, slots := 0, locals := 0 } : Room) (va_Pc [.ref ot, .int le] (fun U => U.heap.size = sz ∧ va_P (dC, dI) vwCl [(ot, .inr (10, [.ref at1, .ref at2, .ref at3, .int lt])), (at2, .inl (cI, 512, .inl ft2)), (at3, .inl (cI, 512, .inl ft3))] U.heap ∧ va_K (dC, dI) vwCl [(cI, .int), (cS, .short)] U ∧ va_D (fun _ => True) [(ot, .inr (10, [.ref at1, .ref at2, .ref at3, .int lt])), (at2, .inl (cI, 512, .inl ft2)), (at3, .inl (cI, 512, .inl ft3))])) (va_Qi (fun (r : Int32) (u : Int32) => r = u) (fun (r : Int32) t => va_P (dC, dI) vwCl [(ot, .inr (10, [.ref at1, .ref at2, .ref at3, .int lt])), (at2, .inl (cI, 512, .inl ft2)), (at3, .inl (cI, 512, .inl ft3))] t.heap ∧ va_D (va_A [(ot, .inr (10, [.ref at1, .ref at2, .ref at3, .int lt])), (at2, .inl (cI, 512, .inl ft2)), (at3, .inl (cI, 512, .inl ft3))] sz) [(ot, .inr (10, [.ref at1, .ref at2, .ref at3, .int lt])), (at2, .inl (cI, 512, .inl ft2)), (at3, .inl (cI, 512, .inl ft3))] ∧ (-1 ≤ r.toInt ∧ r.toInt ≤ 511) ∧ (F_pf 512 511 (hsT le) le r ft2 ft3)) (va_A [(ot, .inr (10, [.ref at1, .ref at2, .ref at3, .int lt])), (at2, .inl (cI, 512, .inl ft2)), (at3, .inl (cI, 512, .inl ft3))] sz)) 0 0 (va_A [(ot, .inr (10, [.ref at1, .ref at2, .ref at3, .int lt])), (at2, .inl (cI, 512, .inl ft2)), (at3, .inl (cI, 512, .inl ft3))] sz) := by
  refine Met.ofW (cc := cX10_placeFor) (maxL := 5) (ret := (some .int)) (by decide) rfl ?_
  intro p e s m args below meth c s₁ B hml hv
  obtain ⟨rfl, hsz, hP, hK, hD0⟩ := hv
  have hx := B.exec
  have hb := B.bytes
  have hr := B.returns
  have hts := atoms_spec (ws := wsX10_placeFor) B.pre
  have hown : s.vm.findClass RX10 = some m.cls := findClass_of_methodNamed B.named
  have hlocks := B.notSynchronized
  have in_X10 : ∀ w ∈ wsX100, w ∈ wsX10_placeFor := fun _ h => List.mem_cons_of_mem _ (List.mem_append_right _ (h))
  subst hsz
  have hD := hD0.self (sz := s.heap.size)
  generalize hAe : va_A [(ot, .inr (10, [.ref at1, .ref at2, .ref at3, .int lt])), (at2, .inl (cI, 512, .inl ft2)), (at3, .inl (cI, 512, .inl ft3))] s.heap.size = A at hD ⊢
  have hA : ∀ q : Nat, s.heap.size ≤ q → A q := fun q h => by rw [← hAe]; exact Or.inr h
  have hS : va_S A s.heap s.heap [] := va_S.rf
  have hP : va_P (dC, dI) vwCl [(ot, .inr (10, [.ref at1, .ref at2, .ref at3, .int lt])), (at2, .inl (cI, 512, .inl ft2)), (at3, .inl (cI, 512, .inl ft3))] s.heap := hP
  have hl := lv_entry ([.ref ot, .int le]) (n := 5) (Nat.le_of_ble_eq_true rfl)
  rw [lg_entry_eq]
  generalize (lg_sl ([.ref ot, .int le]) ++ List.replicate (5 - (lg_sl ([.ref ot, .int le])).length) Slot.unset).toArray = ls at hl ⊢
  have hl : lv_has ls 5 [(0, .ref ot), (1, .int le)] := hl
  obtain ⟨QQ, hQQ⟩ : ∃ QQ : Array Value → State → Outcome → State → Prop, QQ = va_Qi (fun (r : Int32) (u : Int32) => r = u) (fun (r : Int32) t => va_P (dC, dI) vwCl [(ot, .inr (10, [.ref at1, .ref at2, .ref at3, .int lt])), (at2, .inl (cI, 512, .inl ft2)), (at3, .inl (cI, 512, .inl ft3))] t.heap ∧ va_D A [(ot, .inr (10, [.ref at1, .ref at2, .ref at3, .int lt])), (at2, .inl (cI, 512, .inl ft2)), (at3, .inl (cI, 512, .inl ft3))] ∧ (-1 ≤ r.toInt ∧ r.toInt ≤ 511) ∧ (F_pf 512 511 (hsT le) le r ft2 ft3)) A := ⟨_, rfl⟩
  rw [← hQQ]
  refine lv_iload_n hx hb dX10_placeFor_0 rfl (lv_at hl 1 rfl) ?_
  refine lv_ldc hx hb hown (hts (.constant RX10 45 (-1640531535)) (List.mem_of_getElem? (i := 1) rfl)) dX10_placeFor_1 ?_
  refine lv_imul hx hb dX10_placeFor_3 ?_
  refine lv_topi (fun x_1 ex_1 => ?_)
  have rv1_0 := v_rng le
  refine lv_bipush (v := 23) hx hb dX10_placeFor_4 (by decide) ?_
  obtain ⟨x_2, ex_2⟩ : ∃ v : Int32, v = ((x_1 : Int32).toUInt32 >>> ((23 : Int32).toUInt32 &&& Int32.toUInt32 31)).toInt32 := ⟨_, rfl⟩
  refine lv_iushr (v := x_2) hx hb dX10_placeFor_6 ex_2.symm ?_
  have tx_2 : 0 ≤ x_2.toInt ∧ x_2.toInt < 512 := v_ushr 23 ex_2 (by decide) (by decide) (by decide)
  refine lv_istore_n (lv' := [(2, .int x_2), (0, .ref ot), (1, .int le)]) hx hb dX10_placeFor_7 rfl hl (by decide) rfl (fun ls hl => ?_)
  refine lv_iconst (v := 0) hx hb dX10_placeFor_8 (by decide) ?_
  refine lv_istore_n (lv' := [(3, .int 0), (2, .int x_2), (0, .ref ot), (1, .int le)]) hx hb dX10_placeFor_9 rfl hl (by decide) rfl (fun ls hl => ?_)
  have LOOP_10 : ∀ (k_10 : Nat) (k : Int32) (H : Heap) (locs : List Loc) (ls : Array Slot), MSd (512 - k.toInt : Int) k_10 → (0 ≤ k.toInt ∧ k.toInt ≤ 512) → (∀ q : Int32, 0 ≤ q.toInt → q.toInt < k.toInt → ¬ ft3 (slI 511 x_2 q) = -1 ∧ ¬ ft2 (slI 511 x_2 q) = le) → va_P (dC, dI) vwCl [(ot, .inr (10, [.ref at1, .ref at2, .ref at3, .int lt])), (at2, .inl (cI, 512, .inl ft2)), (at3, .inl (cI, 512, .inl ft3))] H → va_D A [(ot, .inr (10, [.ref at1, .ref at2, .ref at3, .int lt])), (at2, .inl (cI, 512, .inl ft2)), (at3, .inl (cI, 512, .inl ft3))] → va_S A s.heap H locs → lv_has ls 5 [(3, .int k), (2, .int x_2), (0, .ref ot), (1, .int le)] → W p l e (headSpec wsX10_placeFor ({ frames := 0, cells := 0, slots := 0, locals := 0 } : Room)).room s m ([.ref ot, .int le] : List Value).toArray below meth c H locs 0 0 (MQ below QQ ([.ref ot, .int le] : List Value).toArray s 0 0 A) (F0 m 10 ls []) := by
    clear hP hD hS hl
    intro k_10
    induction k_10 with
    | zero =>
      intro k H locs ls hm_10 g_k hq hP hD hS hl
      exact ms_0 hm_10
    | succ k_10 ih_10 =>
      intro k H locs ls hm_10 g_k hq hP hD hS hl
      refine lv_iload_n hx hb dX10_placeFor_10 rfl (lv_at hl 0 rfl) ?_
      refine lv_sipush (v := 512) hx hb dX10_placeFor_11 (by decide) ?_
      refine lv_icmp_ge (tgt := 57) hx hb dX10_placeFor_14 (by decide) (fun c_3 => ?_) (fun c_3 => ?_)
      · have tc_3 : 512 ≤ k.toInt := v_le c_3
        refine lv_iconst (v := (-1)) hx hb dX10_placeFor_57 (by decide) ?_
        have hP9 := hP.sub (ws' := [(ot, .inr (10, [.ref at1, .ref at2, .ref at3, .int lt])), (at2, .inl (cI, 512, .inl ft2)), (at3, .inl (cI, 512, .inl ft3))]) [0, 1, 2] rfl
        have hD9 := hD.sub (ws' := [(ot, .inr (10, [.ref at1, .ref at2, .ref at3, .int lt])), (at2, .inl (cI, 512, .inl ft2)), (at3, .inl (cI, 512, .inl ft3))]) [0, 1, 2] (by decide +kernel) rfl
        rw [hQQ]
        exact W.iret (v := (-1)) hx hb hr (fun t ht hW => ⟨⟨(-1), (-1), rfl, rfl, ⟨by rw [ht]; exact hP9, hD9, by decide, F_pf_eq (Or.inl ⟨rfl, fun q h1 h2 => hq q h1 (by omega)⟩) (by rw [ex_2, ex_1]; rfl)⟩⟩, hS.F ht⟩) hS.2.2 dX10_placeFor_58
      · have tc_3 : k.toInt < 512 := v_nle c_3
        refine lv_iload_n hx hb dX10_placeFor_17 rfl (lv_at hl 1 rfl) ?_
        refine lv_iload_n hx hb dX10_placeFor_18 rfl (lv_at hl 0 rfl) ?_
        refine lv_iadd hx hb dX10_placeFor_19 ?_
        refine lv_topi (fun x_4 ex_4 => ?_)
        have tx_4 : x_4.toInt = x_2.toInt + k.toInt := v_add ex_4 (by show -2147483648 ≤ x_2.toInt + k.toInt; omega) (by show x_2.toInt + k.toInt < 2147483648; omega)
        refine lv_sipush (v := 511) hx hb dX10_placeFor_20 (by decide) ?_
        refine lv_iand hx hb dX10_placeFor_23 ?_
        refine lv_topi (fun x_5 ex_5 => ?_)
        have tx_5 : 0 ≤ x_5.toInt ∧ x_5.toInt < 512 := v_and 9 ex_5 (by decide) (by decide)
        refine lv_istore (lv' := [(4, .int x_5), (3, .int k), (2, .int x_2), (0, .ref ot), (1, .int le)]) hx hb dX10_placeFor_24 hl (by decide) rfl (fun ls hl => ?_)
        refine lv_aload_n hx hb dX10_placeFor_26 rfl (lv_at hl 3 rfl) ?_
        refine va_get (D := (dC, dI)) (ci := 10) (v := .ref at3) (C := RX10) (T := TX10) (N := 4) hx hb hts in_X10 hown hK hP 0 rfl rfl 2 (by decide) (hts (.fieldLink RX10 18 "TextMender$ToldCode" "placeByte" "[I") (List.mem_of_getElem? (i := 2) rfl)) (fun _ h9 => h9) rfl dX10_placeFor_27 ?_
        refine lv_iload hx hb dX10_placeFor_30 (lv_at hl 0 rfl) ?_
        refine va_iald hx hb hK hP 2 0 rfl rfl (v_in (by omega)) dX10_placeFor_32 ?_
        refine lv_topi (fun x_6 ex_6 => ?_)
        refine lv_iconst (v := (-1)) hx hb dX10_placeFor_33 (by decide) ?_
        refine lv_icmp_eq (tgt := 48) hx hb dX10_placeFor_34 (by decide) (fun c_7 => ?_) (fun c_7 => ?_)
        · have tc_7 : x_6.toInt = (-1) := v_eq c_7
          refine lv_iload hx hb dX10_placeFor_48 (lv_at hl 0 rfl) ?_
          have hP9 := hP.sub (ws' := [(ot, .inr (10, [.ref at1, .ref at2, .ref at3, .int lt])), (at2, .inl (cI, 512, .inl ft2)), (at3, .inl (cI, 512, .inl ft3))]) [0, 1, 2] rfl
          have hD9 := hD.sub (ws' := [(ot, .inr (10, [.ref at1, .ref at2, .ref at3, .int lt])), (at2, .inl (cI, 512, .inl ft2)), (at3, .inl (cI, 512, .inl ft3))]) [0, 1, 2] (by decide +kernel) rfl
          rw [hQQ]
          exact W.iret (v := x_5) hx hb hr (fun t ht hW => ⟨⟨x_5, x_5, rfl, rfl, ⟨by rw [ht]; exact hP9, hD9, by omega, F_pf_eq (Or.inr ⟨by omega, way_here hq ex_4 ex_5 (Or.inl (by rw [← ex_6]; exact c_7)) (by omega) (by omega)⟩) (by rw [ex_2, ex_1]; rfl)⟩⟩, hS.F ht⟩) hS.2.2 dX10_placeFor_50
        · have tc_7 : ¬ x_6.toInt = (-1) := v_ne c_7
          refine lv_aload_n hx hb dX10_placeFor_37 rfl (lv_at hl 3 rfl) ?_
          refine va_get (D := (dC, dI)) (ci := 10) (v := .ref at2) (C := RX10) (T := TX10) (N := 4) hx hb hts in_X10 hown hK hP 0 rfl rfl 1 (by decide) (hts (.fieldLink RX10 15 "TextMender$ToldCode" "placeLetter" "[I") (List.mem_of_getElem? (i := 3) rfl)) (fun _ h9 => h9) rfl dX10_placeFor_38 ?_
          refine lv_iload hx hb dX10_placeFor_41 (lv_at hl 0 rfl) ?_
          refine va_iald hx hb hK hP 1 0 rfl rfl (v_in (by omega)) dX10_placeFor_43 ?_
          refine lv_topi (fun x_8 ex_8 => ?_)
          refine lv_iload_n hx hb dX10_placeFor_44 rfl (lv_at hl 4 rfl) ?_
          refine lv_icmp_ne (tgt := 51) hx hb dX10_placeFor_45 (by decide) (fun c_9 => ?_) (fun c_9 => ?_)
          · have tc_9 : ¬ x_8.toInt = le.toInt := v_ne c_9
            have rw9_0 := v_rng x_8
            obtain ⟨x_10, ex_10⟩ : ∃ y : Int32, y = k + 1 := ⟨_, rfl⟩
            have tx_10 : x_10.toInt = k.toInt + 1 := v_add ex_10 (by show -2147483648 ≤ k.toInt + 1; omega) (by show k.toInt + 1 < 2147483648; omega)
            refine lv_iinc (v := x_10) (lv' := [(3, .int x_10), (4, .int x_5), (2, .int x_2), (0, .ref ot), (1, .int le)]) hx hb dX10_placeFor_51 hl (k := 1) rfl (by rw [ex_10]; rfl) (by decide) rfl (fun ls hl => ?_)
            refine lv_goto (tgt := 10) hx hb dX10_placeFor_54 (by decide) ?_
            exact ih_10 x_10 _ _ _ (ms_lt hm_10 (by show ((512 - x_10.toInt : Int)) < 512 - k.toInt; omega) (by show (0 : Int) < 512 - k.toInt; omega)) (by show 0 ≤ x_10.toInt ∧ x_10.toInt ≤ 512; omega) (way_step hq ex_4 ex_5 ex_6 ex_8 c_7 c_9 (by omega)) hP hD hS (lv_sub hl [0, 2, 3, 4] rfl)
          · have tc_9 : x_8.toInt = le.toInt := v_eq c_9
            have rw9_0 := v_rng x_8
            refine lv_iload hx hb dX10_placeFor_48 (lv_at hl 0 rfl) ?_
            have hP9 := hP.sub (ws' := [(ot, .inr (10, [.ref at1, .ref at2, .ref at3, .int lt])), (at2, .inl (cI, 512, .inl ft2)), (at3, .inl (cI, 512, .inl ft3))]) [0, 1, 2] rfl
            have hD9 := hD.sub (ws' := [(ot, .inr (10, [.ref at1, .ref at2, .ref at3, .int lt])), (at2, .inl (cI, 512, .inl ft2)), (at3, .inl (cI, 512, .inl ft3))]) [0, 1, 2] (by decide +kernel) rfl
            rw [hQQ]
            exact W.iret (v := x_5) hx hb hr (fun t ht hW => ⟨⟨x_5, x_5, rfl, rfl, ⟨by rw [ht]; exact hP9, hD9, by omega, F_pf_eq (Or.inr ⟨by omega, way_here hq ex_4 ex_5 (Or.inr (by rw [← ex_8]; exact c_9)) (by omega) (by omega)⟩) (by rw [ex_2, ex_1]; rfl)⟩⟩, hS.F ht⟩) hS.2.2 dX10_placeFor_50
  exact LOOP_10 _ 0 _ _ _ (ms_s _) (by decide) (fun q h1 h2 => absurd h2 (by show ¬ q.toInt < 0; omega)) hP hD hS (lv_sub hl [0, 1, 2, 3] rfl)

set_option maxHeartbeats 40000000 in
set_option maxRecDepth 100000 in
theorem f_X10_byteFor (l : Launch) (dC : Nat → ClassId) (dI : Nat → Nat → Nat) (cI cS : ClassId) (sz : Nat) (ot : Nat) (at1 : Nat) (at2 : Nat) (at3 : Nat) (lt : Int32) (ft2 : Nat → Int32) (ft3 : Nat → Int32) (le : Int32) (hT : HT 512 511 hsT ft2 ft3) (ho : (occ ft3 512 : Int) ≤ 511) : Met l yX10_byteFor wsX10_byteFor ({ frames := 1, cells := 0, slots := 0, locals := 24 } : Room) (va_Pc [.ref ot, .int le] (fun U => U.heap.size = sz ∧ va_P (dC, dI) vwCl [(ot, .inr (10, [.ref at1, .ref at2, .ref at3, .int lt])), (at2, .inl (cI, 512, .inl ft2)), (at3, .inl (cI, 512, .inl ft3))] U.heap ∧ va_K (dC, dI) vwCl [(cI, .int), (cS, .short)] U ∧ va_D (fun _ => True) [(ot, .inr (10, [.ref at1, .ref at2, .ref at3, .int lt])), (at2, .inl (cI, 512, .inl ft2)), (at3, .inl (cI, 512, .inl ft3))])) (va_Qi (fun (r : Int32) (u : Int32) => r = u) (fun (r : Int32) t => va_P (dC, dI) vwCl [(ot, .inr (10, [.ref at1, .ref at2, .ref at3, .int lt])), (at2, .inl (cI, 512, .inl ft2)), (at3, .inl (cI, 512, .inl ft3))] t.heap ∧ va_D (va_A [(ot, .inr (10, [.ref at1, .ref at2, .ref at3, .int lt])), (at2, .inl (cI, 512, .inl ft2)), (at3, .inl (cI, 512, .inl ft3))] sz) [(ot, .inr (10, [.ref at1, .ref at2, .ref at3, .int lt])), (at2, .inl (cI, 512, .inl ft2)), (at3, .inl (cI, 512, .inl ft3))] ∧ (F_bf r le ft2 ft3)) (va_A [(ot, .inr (10, [.ref at1, .ref at2, .ref at3, .int lt])), (at2, .inl (cI, 512, .inl ft2)), (at3, .inl (cI, 512, .inl ft3))] sz)) 0 0 (va_A [(ot, .inr (10, [.ref at1, .ref at2, .ref at3, .int lt])), (at2, .inl (cI, 512, .inl ft2)), (at3, .inl (cI, 512, .inl ft3))] sz) := by
  refine Met.ofW (cc := cX10_byteFor) (maxL := 3) (ret := (some .int)) (by decide) rfl ?_
  intro p e s m args below meth c s₁ B hml hv
  obtain ⟨rfl, hsz, hP, hK, hD0⟩ := hv
  have hx := B.exec
  have hb := B.bytes
  have hr := B.returns
  have hts := atoms_spec (ws := wsX10_byteFor) B.pre
  have hown : s.vm.findClass RX10 = some m.cls := findClass_of_methodNamed B.named
  have hlocks := B.notSynchronized
  have in_X10 : ∀ w ∈ wsX100, w ∈ wsX10_byteFor := fun _ h => List.mem_cons_of_mem _ (List.mem_append_right _ (h))
  subst hsz
  have hD := hD0.self (sz := s.heap.size)
  generalize hAe : va_A [(ot, .inr (10, [.ref at1, .ref at2, .ref at3, .int lt])), (at2, .inl (cI, 512, .inl ft2)), (at3, .inl (cI, 512, .inl ft3))] s.heap.size = A at hD ⊢
  have hA : ∀ q : Nat, s.heap.size ≤ q → A q := fun q h => by rw [← hAe]; exact Or.inr h
  have hS : va_S A s.heap s.heap [] := va_S.rf
  have hP : va_P (dC, dI) vwCl [(ot, .inr (10, [.ref at1, .ref at2, .ref at3, .int lt])), (at2, .inl (cI, 512, .inl ft2)), (at3, .inl (cI, 512, .inl ft3))] s.heap := hP
  have hl := lv_entry ([.ref ot, .int le]) (n := 3) (Nat.le_of_ble_eq_true rfl)
  rw [lg_entry_eq]
  generalize (lg_sl ([.ref ot, .int le]) ++ List.replicate (3 - (lg_sl ([.ref ot, .int le])).length) Slot.unset).toArray = ls at hl ⊢
  have hl : lv_has ls 3 [(0, .ref ot), (1, .int le)] := hl
  obtain ⟨QQ, hQQ⟩ : ∃ QQ : Array Value → State → Outcome → State → Prop, QQ = va_Qi (fun (r : Int32) (u : Int32) => r = u) (fun (r : Int32) t => va_P (dC, dI) vwCl [(ot, .inr (10, [.ref at1, .ref at2, .ref at3, .int lt])), (at2, .inl (cI, 512, .inl ft2)), (at3, .inl (cI, 512, .inl ft3))] t.heap ∧ va_D A [(ot, .inr (10, [.ref at1, .ref at2, .ref at3, .int lt])), (at2, .inl (cI, 512, .inl ft2)), (at3, .inl (cI, 512, .inl ft3))] ∧ (F_bf r le ft2 ft3)) A := ⟨_, rfl⟩
  rw [← hQQ]
  refine lv_aload_n hx hb dX10_byteFor_0 rfl (lv_at hl 0 rfl) ?_
  refine lv_iload_n hx hb dX10_byteFor_1 rfl (lv_at hl 1 rfl) ?_
  have hPc := hP.sub (ws' := [(ot, .inr (10, [.ref at1, .ref at2, .ref at3, .int lt])), (at2, .inl (cI, 512, .inl ft2)), (at3, .inl (cI, 512, .inl ft3))]) [0, 1, 2] rfl
  have hDc := hD.sub (ws' := [(ot, .inr (10, [.ref at1, .ref at2, .ref at3, .int lt])), (at2, .inl (cI, 512, .inl ft2)), (at3, .inl (cI, 512, .inl ft3))]) [0, 1, 2] (by decide +kernel) rfl
  have hFc := va_free (wc := [(ot, .inr (10, [.ref at1, .ref at2, .ref at3, .int lt])), (at2, .inl (cI, 512, .inl ft2)), (at3, .inl (cI, 512, .inl ft3))]) hD hS hA [0, 1, 2] rfl
  refine va_calli (va_runV (As := [.int le]) (rest := []) ⟨hx, hb, hml, hown, hts⟩ (f_X10_placeFor l dC dI cI cS s.heap.size ot at1 at2 at3 lt ft2 ft3 le ) (cwV 1 hts gX10_byteFor_X10_placeFor rfl rfl rfl (by decide +kernel) ⟨Nat.le_of_ble_eq_true rfl, Nat.le_of_ble_eq_true rfl⟩) ⟨fun a U g mk q => by obtain ⟨q0, q1, qP, qK, qD⟩ := q; exact ⟨q0, q1, qP, va_K.moved (u := U) (U := U.calling g mk a) (Vm.Alike.refl U.vm) qK, qD⟩, va_recv hK hPc (ci := 10) (q0 := 0) rfl rfl, fun U hU hW => ⟨rfl, by rw [hU], by rw [hU]; exact hPc, va_K.moved hW.alike hK, hDc.weaken (fun _ _ _ _ => trivial)⟩⟩ rfl rfl hl.1 rfl (lv_room (Nat.le_of_ble_eq_true rfl)) dX10_byteFor_2 ⟨Nat.le_of_ble_eq_true rfl, Nat.le_of_ble_eq_true rfl⟩) hS (fun q _ h => hFc q h) hFc (fun r_1 u t H1 locs ht hvm hw hB hz1 hk1 hSn => ?_)
  subst hw
  obtain ⟨hP1, hD1, hf1_0, hf1_1⟩ := hB
  rw [ht] at hP1
  obtain ⟨hPn, hDn⟩ := va_join (wr := []) (w1 := [(ot, .inr (10, [.ref at1, .ref at2, .ref at3, .int lt])), (at2, .inl (cI, 512, .inl ft2)), (at3, .inl (cI, 512, .inl ft3))]) hP hD [0, 1, 2] [] rfl rfl (by decide +kernel) (by decide +kernel) hk1 hFc hP1 hD1
  clear hP hD hS hPc hDc hFc hk1 hz1 hvm ht hP1 hD1
  generalize H1 = H at hPn hSn ⊢
  have hP : va_P (dC, dI) vwCl [(ot, .inr (10, [.ref at1, .ref at2, .ref at3, .int lt])), (at2, .inl (cI, 512, .inl ft2)), (at3, .inl (cI, 512, .inl ft3))] H := hPn
  have hD : va_D A [(ot, .inr (10, [.ref at1, .ref at2, .ref at3, .int lt])), (at2, .inl (cI, 512, .inl ft2)), (at3, .inl (cI, 512, .inl ft3))] := hDn
  have hS := hSn
  clear hPn hDn hSn
  obtain ⟨hpz1, hpf1⟩ := pfT_found hf1_1 ho
  refine lv_istore_n (lv' := [(2, .int r_1), (0, .ref ot), (1, .int le)]) hx hb dX10_byteFor_5 rfl hl (by decide) rfl (fun ls hl => ?_)
  refine lv_iload_n hx hb dX10_byteFor_6 rfl (lv_at hl 0 rfl) ?_
  refine lv_iconst (v := (-1)) hx hb dX10_byteFor_7 (by decide) ?_
  refine lv_icmp_ne (tgt := 15) hx hb dX10_byteFor_8 (by decide) (fun c_2 => ?_) (fun c_2 => by exfalso; have tc_2 : r_1.toInt = (-1) := v_eq c_2; omega)
  have tc_2 : ¬ r_1.toInt = (-1) := v_ne c_2
  refine lv_aload_n hx hb dX10_byteFor_15 rfl (lv_at hl 1 rfl) ?_
  refine va_get (D := (dC, dI)) (ci := 10) (v := .ref at3) (C := RX10) (T := TX10) (N := 4) hx hb hts in_X10 hown hK hP 0 rfl rfl 2 (by decide) (hts (.fieldLink RX10 18 "TextMender$ToldCode" "placeByte" "[I") (List.mem_of_getElem? (i := 1) rfl)) (fun _ h9 => h9) rfl dX10_byteFor_16 ?_
  refine lv_iload_n hx hb dX10_byteFor_19 rfl (lv_at hl 0 rfl) ?_
  refine va_iald hx hb hK hP 2 0 rfl rfl (v_in (by omega)) dX10_byteFor_20 ?_
  refine lv_topi (fun x_3 ex_3 => ?_)
  have hP9 := hP.sub (ws' := [(ot, .inr (10, [.ref at1, .ref at2, .ref at3, .int lt])), (at2, .inl (cI, 512, .inl ft2)), (at3, .inl (cI, 512, .inl ft3))]) [0, 1, 2] rfl
  have hD9 := hD.sub (ws' := [(ot, .inr (10, [.ref at1, .ref at2, .ref at3, .int lt])), (at2, .inl (cI, 512, .inl ft2)), (at3, .inl (cI, 512, .inl ft3))]) [0, 1, 2] (by decide +kernel) rfl
  rw [hQQ]
  exact W.iret (v := x_3) hx hb hr (fun t ht hW => ⟨⟨x_3, x_3, rfl, rfl, ⟨by rw [ht]; exact hP9, hD9, bf_of hT hpf1 (by omega) (by omega) ex_3⟩⟩, hS.F ht⟩) hS.2.2 dX10_byteFor_21

set_option maxHeartbeats 40000000 in
set_option maxRecDepth 100000 in
theorem f_X10_canTake (l : Launch) (dC : Nat → ClassId) (dI : Nat → Nat → Nat) (cI cS : ClassId) (sz : Nat) (ot : Nat) (at1 : Nat) (at2 : Nat) (at3 : Nat) (lt : Int32) (ft1 : Nat → Int32) (ft2 : Nat → Int32) (ft3 : Nat → Int32) (fr : Int32) (n : Int32) (le : Int32) (sp : Int32) (hT : HT 512 511 hsT ft2 ft3) (ho : (occ ft3 512 : Int) ≤ 511) : Met l yX10_canTake wsX10_canTake ({ frames := 2, cells := 0, slots := 0, locals := 46 } : Room) (va_Pc [.ref ot, .int fr, .int n, .int le, .int sp] (fun U => U.heap.size = sz ∧ va_P (dC, dI) vwCl [(ot, .inr (10, [.ref at1, .ref at2, .ref at3, .int lt])), (at1, .inl (cI, 256, .inl ft1)), (at2, .inl (cI, 512, .inl ft2)), (at3, .inl (cI, 512, .inl ft3))] U.heap ∧ va_K (dC, dI) vwCl [(cI, .int), (cS, .short)] U ∧ va_D (fun _ => True) [(ot, .inr (10, [.ref at1, .ref at2, .ref at3, .int lt])), (at1, .inl (cI, 256, .inl ft1)), (at2, .inl (cI, 512, .inl ft2)), (at3, .inl (cI, 512, .inl ft3))] ∧ va_Nw (.methodLinkNest RX10 35 yX11_isLetter "TextMender") U)) (va_Qi (fun (r : Int32) (u : Int32) => r = u) (fun (r : Int32) t => va_P (dC, dI) vwCl [(ot, .inr (10, [.ref at1, .ref at2, .ref at3, .int lt])), (at1, .inl (cI, 256, .inl ft1)), (at2, .inl (cI, 512, .inl ft2)), (at3, .inl (cI, 512, .inl ft3))] t.heap ∧ va_D (va_A [(ot, .inr (10, [.ref at1, .ref at2, .ref at3, .int lt])), (at1, .inl (cI, 256, .inl ft1)), (at2, .inl (cI, 512, .inl ft2)), (at3, .inl (cI, 512, .inl ft3))] sz) [(ot, .inr (10, [.ref at1, .ref at2, .ref at3, .int lt])), (at1, .inl (cI, 256, .inl ft1)), (at2, .inl (cI, 512, .inl ft2)), (at3, .inl (cI, 512, .inl ft3))] ∧ (0 ≤ r.toInt ∧ r.toInt ≤ 1) ∧ (F_ct r fr n le sp (fun k => ft1 k = -1) (nT ft2 ft3))) (va_A [(ot, .inr (10, [.ref at1, .ref at2, .ref at3, .int lt])), (at1, .inl (cI, 256, .inl ft1)), (at2, .inl (cI, 512, .inl ft2)), (at3, .inl (cI, 512, .inl ft3))] sz)) 0 0 (va_A [(ot, .inr (10, [.ref at1, .ref at2, .ref at3, .int lt])), (at1, .inl (cI, 256, .inl ft1)), (at2, .inl (cI, 512, .inl ft2)), (at3, .inl (cI, 512, .inl ft3))] sz) := by
  refine Met.ofW (cc := cX10_canTake) (maxL := 8) (ret := (some .boolean)) (by decide) rfl ?_
  intro p e s m args below meth c s₁ B hml hv
  obtain ⟨rfl, hsz, hP, hK, hD0, hN35⟩ := hv
  have hx := B.exec
  have hb := B.bytes
  have hr := B.returns
  have hts := atoms_spec (ws := wsX10_canTake) B.pre
  have hown : s.vm.findClass RX10 = some m.cls := findClass_of_methodNamed B.named
  have hlocks := B.notSynchronized
  subst hsz
  have hD := hD0.self (sz := s.heap.size)
  generalize hAe : va_A [(ot, .inr (10, [.ref at1, .ref at2, .ref at3, .int lt])), (at1, .inl (cI, 256, .inl ft1)), (at2, .inl (cI, 512, .inl ft2)), (at3, .inl (cI, 512, .inl ft3))] s.heap.size = A at hD ⊢
  have hA : ∀ q : Nat, s.heap.size ≤ q → A q := fun q h => by rw [← hAe]; exact Or.inr h
  have hS : va_S A s.heap s.heap [] := va_S.rf
  have hP : va_P (dC, dI) vwCl [(ot, .inr (10, [.ref at1, .ref at2, .ref at3, .int lt])), (at1, .inl (cI, 256, .inl ft1)), (at2, .inl (cI, 512, .inl ft2)), (at3, .inl (cI, 512, .inl ft3))] s.heap := hP
  have hl := lv_entry ([.ref ot, .int fr, .int n, .int le, .int sp]) (n := 8) (Nat.le_of_ble_eq_true rfl)
  rw [lg_entry_eq]
  generalize (lg_sl ([.ref ot, .int fr, .int n, .int le, .int sp]) ++ List.replicate (8 - (lg_sl ([.ref ot, .int fr, .int n, .int le, .int sp])).length) Slot.unset).toArray = ls at hl ⊢
  have hl : lv_has ls 8 [(0, .ref ot), (1, .int fr), (2, .int n), (3, .int le), (4, .int sp)] := hl
  obtain ⟨QQ, hQQ⟩ : ∃ QQ : Array Value → State → Outcome → State → Prop, QQ = va_Qi (fun (r : Int32) (u : Int32) => r = u) (fun (r : Int32) t => va_P (dC, dI) vwCl [(ot, .inr (10, [.ref at1, .ref at2, .ref at3, .int lt])), (at1, .inl (cI, 256, .inl ft1)), (at2, .inl (cI, 512, .inl ft2)), (at3, .inl (cI, 512, .inl ft3))] t.heap ∧ va_D A [(ot, .inr (10, [.ref at1, .ref at2, .ref at3, .int lt])), (at1, .inl (cI, 256, .inl ft1)), (at2, .inl (cI, 512, .inl ft2)), (at3, .inl (cI, 512, .inl ft3))] ∧ (0 ≤ r.toInt ∧ r.toInt ≤ 1) ∧ (F_ct r fr n le sp (fun k => ft1 k = -1) (nT ft2 ft3))) A := ⟨_, rfl⟩
  rw [← hQQ]
  refine lv_iload_n hx hb dX10_canTake_0 rfl (lv_at hl 1 rfl) ?_
  refine lv_if_lt (tgt := 29) hx hb dX10_canTake_1 (by decide) (fun c_1 => ?_) (fun c_1 => ?_)
  · have tc_1 : fr.toInt < 0 := v_lt c_1
    refine lv_iconst (v := 0) hx hb dX10_canTake_29 (by decide) ?_
    refine lv_istore (lv' := [(5, .int 0), (0, .ref ot), (1, .int fr), (2, .int n), (3, .int le), (4, .int sp)]) hx hb dX10_canTake_30 hl (by decide) rfl (fun ls hl => ?_)
    refine lv_iload hx hb dX10_canTake_32 (lv_at hl 0 rfl) ?_
    refine lv_if_eq (tgt := 60) hx hb dX10_canTake_34 (by decide) (fun c_2 => ?_) (fun c_2 => absurd c_2 (by decide))
    refine lv_iconst (v := 0) hx hb dX10_canTake_60 (by decide) ?_
    have hP9 := hP.sub (ws' := [(ot, .inr (10, [.ref at1, .ref at2, .ref at3, .int lt])), (at1, .inl (cI, 256, .inl ft1)), (at2, .inl (cI, 512, .inl ft2)), (at3, .inl (cI, 512, .inl ft3))]) [0, 1, 2, 3] rfl
    have hD9 := hD.sub (ws' := [(ot, .inr (10, [.ref at1, .ref at2, .ref at3, .int lt])), (at1, .inl (cI, 256, .inl ft1)), (at2, .inl (cI, 512, .inl ft2)), (at3, .inl (cI, 512, .inl ft3))]) [0, 1, 2, 3] (by decide +kernel) rfl
    rw [hQQ]
    exact W.zret (v := 0) (ty := .boolean) hx hb hr (rfl) (fun t ht hW => ⟨⟨0, 0, rfl, rfl, ⟨by rw [ht]; exact hP9, hD9, by decide, Or.inr ⟨rfl, fun h => by have h1 := h.1; unfold isLz at h1; omega⟩⟩⟩, hS.F ht⟩) hS.2.2 dX10_canTake_61
  · have tc_1 : 0 ≤ fr.toInt := v_nlt c_1
    refine lv_iload_n hx hb dX10_canTake_4 rfl (lv_at hl 1 rfl) ?_
    refine lv_sipush (v := 256) hx hb dX10_canTake_5 (by decide) ?_
    refine lv_icmp_ge (tgt := 29) hx hb dX10_canTake_8 (by decide) (fun c_3 => ?_) (fun c_3 => ?_)
    · have tc_3 : 256 ≤ fr.toInt := v_le c_3
      refine lv_iconst (v := 0) hx hb dX10_canTake_29 (by decide) ?_
      refine lv_istore (lv' := [(5, .int 0), (0, .ref ot), (1, .int fr), (2, .int n), (3, .int le), (4, .int sp)]) hx hb dX10_canTake_30 hl (by decide) rfl (fun ls hl => ?_)
      refine lv_iload hx hb dX10_canTake_32 (lv_at hl 0 rfl) ?_
      refine lv_if_eq (tgt := 60) hx hb dX10_canTake_34 (by decide) (fun c_4 => ?_) (fun c_4 => absurd c_4 (by decide))
      refine lv_iconst (v := 0) hx hb dX10_canTake_60 (by decide) ?_
      have hP9 := hP.sub (ws' := [(ot, .inr (10, [.ref at1, .ref at2, .ref at3, .int lt])), (at1, .inl (cI, 256, .inl ft1)), (at2, .inl (cI, 512, .inl ft2)), (at3, .inl (cI, 512, .inl ft3))]) [0, 1, 2, 3] rfl
      have hD9 := hD.sub (ws' := [(ot, .inr (10, [.ref at1, .ref at2, .ref at3, .int lt])), (at1, .inl (cI, 256, .inl ft1)), (at2, .inl (cI, 512, .inl ft2)), (at3, .inl (cI, 512, .inl ft3))]) [0, 1, 2, 3] (by decide +kernel) rfl
      rw [hQQ]
      exact W.zret (v := 0) (ty := .boolean) hx hb hr (rfl) (fun t ht hW => ⟨⟨0, 0, rfl, rfl, ⟨by rw [ht]; exact hP9, hD9, by decide, Or.inr ⟨rfl, fun h => by have h1 := h.1; unfold isLz at h1; omega⟩⟩⟩, hS.F ht⟩) hS.2.2 dX10_canTake_61
    · have tc_3 : fr.toInt < 256 := v_nle c_3
      refine lv_iload_n hx hb dX10_canTake_11 rfl (lv_at hl 2 rfl) ?_
      refine lv_iconst (v := 1) hx hb dX10_canTake_12 (by decide) ?_
      refine lv_icmp_lt (tgt := 29) hx hb dX10_canTake_13 (by decide) (fun c_5 => ?_) (fun c_5 => ?_)
      · have tc_5 : n.toInt < 1 := v_lt c_5
        refine lv_iconst (v := 0) hx hb dX10_canTake_29 (by decide) ?_
        refine lv_istore (lv' := [(5, .int 0), (0, .ref ot), (1, .int fr), (2, .int n), (3, .int le), (4, .int sp)]) hx hb dX10_canTake_30 hl (by decide) rfl (fun ls hl => ?_)
        refine lv_iload hx hb dX10_canTake_32 (lv_at hl 0 rfl) ?_
        refine lv_if_eq (tgt := 60) hx hb dX10_canTake_34 (by decide) (fun c_6 => ?_) (fun c_6 => absurd c_6 (by decide))
        refine lv_iconst (v := 0) hx hb dX10_canTake_60 (by decide) ?_
        have hP9 := hP.sub (ws' := [(ot, .inr (10, [.ref at1, .ref at2, .ref at3, .int lt])), (at1, .inl (cI, 256, .inl ft1)), (at2, .inl (cI, 512, .inl ft2)), (at3, .inl (cI, 512, .inl ft3))]) [0, 1, 2, 3] rfl
        have hD9 := hD.sub (ws' := [(ot, .inr (10, [.ref at1, .ref at2, .ref at3, .int lt])), (at1, .inl (cI, 256, .inl ft1)), (at2, .inl (cI, 512, .inl ft2)), (at3, .inl (cI, 512, .inl ft3))]) [0, 1, 2, 3] (by decide +kernel) rfl
        rw [hQQ]
        exact W.zret (v := 0) (ty := .boolean) hx hb hr (rfl) (fun t ht hW => ⟨⟨0, 0, rfl, rfl, ⟨by rw [ht]; exact hP9, hD9, by decide, Or.inr ⟨rfl, fun h => by have h1 := h.1; unfold isLz at h1; omega⟩⟩⟩, hS.F ht⟩) hS.2.2 dX10_canTake_61
      · have tc_5 : 1 ≤ n.toInt := v_nlt c_5
        refine lv_iload_n hx hb dX10_canTake_16 rfl (lv_at hl 2 rfl) ?_
        refine lv_sipush (v := 256) hx hb dX10_canTake_17 (by decide) ?_
        refine lv_iload_n hx hb dX10_canTake_20 rfl (lv_at hl 1 rfl) ?_
        refine lv_isub hx hb dX10_canTake_21 ?_
        refine lv_topi (fun x_7 ex_7 => ?_)
        have tx_7 : x_7.toInt = 256 - fr.toInt := v_sub ex_7 (by show -2147483648 ≤ 256 - fr.toInt; omega) (by show 256 - fr.toInt < 2147483648; omega)
        refine lv_icmp_gt (tgt := 29) hx hb dX10_canTake_22 (by decide) (fun c_8 => ?_) (fun c_8 => ?_)
        · have tc_8 : x_7.toInt < n.toInt := v_lt c_8
          have rw8_0 := v_rng n
          refine lv_iconst (v := 0) hx hb dX10_canTake_29 (by decide) ?_
          refine lv_istore (lv' := [(5, .int 0), (0, .ref ot), (1, .int fr), (2, .int n), (3, .int le), (4, .int sp)]) hx hb dX10_canTake_30 hl (by decide) rfl (fun ls hl => ?_)
          refine lv_iload hx hb dX10_canTake_32 (lv_at hl 0 rfl) ?_
          refine lv_if_eq (tgt := 60) hx hb dX10_canTake_34 (by decide) (fun c_9 => ?_) (fun c_9 => absurd c_9 (by decide))
          refine lv_iconst (v := 0) hx hb dX10_canTake_60 (by decide) ?_
          have hP9 := hP.sub (ws' := [(ot, .inr (10, [.ref at1, .ref at2, .ref at3, .int lt])), (at1, .inl (cI, 256, .inl ft1)), (at2, .inl (cI, 512, .inl ft2)), (at3, .inl (cI, 512, .inl ft3))]) [0, 1, 2, 3] rfl
          have hD9 := hD.sub (ws' := [(ot, .inr (10, [.ref at1, .ref at2, .ref at3, .int lt])), (at1, .inl (cI, 256, .inl ft1)), (at2, .inl (cI, 512, .inl ft2)), (at3, .inl (cI, 512, .inl ft3))]) [0, 1, 2, 3] (by decide +kernel) rfl
          rw [hQQ]
          exact W.zret (v := 0) (ty := .boolean) hx hb hr (rfl) (fun t ht hW => ⟨⟨0, 0, rfl, rfl, ⟨by rw [ht]; exact hP9, hD9, by decide, Or.inr ⟨rfl, fun h => by have h1 := h.1; unfold isLz at h1; omega⟩⟩⟩, hS.F ht⟩) hS.2.2 dX10_canTake_61
        · have tc_8 : n.toInt ≤ x_7.toInt := v_nlt c_8
          have rw8_0 := v_rng n
          refine lv_iconst (v := 1) hx hb dX10_canTake_25 (by decide) ?_
          refine lv_goto (tgt := 30) hx hb dX10_canTake_26 (by decide) ?_
          refine lv_istore (lv' := [(5, .int 1), (0, .ref ot), (1, .int fr), (2, .int n), (3, .int le), (4, .int sp)]) hx hb dX10_canTake_30 hl (by decide) rfl (fun ls hl => ?_)
          refine lv_iload hx hb dX10_canTake_32 (lv_at hl 0 rfl) ?_
          refine lv_if_eq (tgt := 60) hx hb dX10_canTake_34 (by decide) (fun c_10 => absurd c_10 (by decide)) (fun c_10 => ?_)
          refine lv_iload hx hb dX10_canTake_37 (lv_at hl 5 rfl) ?_
          refine lv_sipush (v := (-255)) hx hb dX10_canTake_39 (by decide) ?_
          refine lv_icmp_lt (tgt := 60) hx hb dX10_canTake_42 (by decide) (fun c_11 => ?_) (fun c_11 => ?_)
          · have tc_11 : sp.toInt < (-255) := v_lt c_11
            refine lv_iconst (v := 0) hx hb dX10_canTake_60 (by decide) ?_
            have hP9 := hP.sub (ws' := [(ot, .inr (10, [.ref at1, .ref at2, .ref at3, .int lt])), (at1, .inl (cI, 256, .inl ft1)), (at2, .inl (cI, 512, .inl ft2)), (at3, .inl (cI, 512, .inl ft3))]) [0, 1, 2, 3] rfl
            have hD9 := hD.sub (ws' := [(ot, .inr (10, [.ref at1, .ref at2, .ref at3, .int lt])), (at1, .inl (cI, 256, .inl ft1)), (at2, .inl (cI, 512, .inl ft2)), (at3, .inl (cI, 512, .inl ft3))]) [0, 1, 2, 3] (by decide +kernel) rfl
            rw [hQQ]
            exact W.zret (v := 0) (ty := .boolean) hx hb hr (rfl) (fun t ht hW => ⟨⟨0, 0, rfl, rfl, ⟨by rw [ht]; exact hP9, hD9, by decide, Or.inr ⟨rfl, fun h => by have h1 := h.1; unfold isLz at h1; omega⟩⟩⟩, hS.F ht⟩) hS.2.2 dX10_canTake_61
          · have tc_11 : (-255) ≤ sp.toInt := v_nlt c_11
            refine lv_iload hx hb dX10_canTake_45 (lv_at hl 5 rfl) ?_
            refine lv_sipush (v := 255) hx hb dX10_canTake_47 (by decide) ?_
            refine lv_icmp_gt (tgt := 60) hx hb dX10_canTake_50 (by decide) (fun c_12 => ?_) (fun c_12 => ?_)
            · have tc_12 : 255 < sp.toInt := v_lt c_12
              refine lv_iconst (v := 0) hx hb dX10_canTake_60 (by decide) ?_
              have hP9 := hP.sub (ws' := [(ot, .inr (10, [.ref at1, .ref at2, .ref at3, .int lt])), (at1, .inl (cI, 256, .inl ft1)), (at2, .inl (cI, 512, .inl ft2)), (at3, .inl (cI, 512, .inl ft3))]) [0, 1, 2, 3] rfl
              have hD9 := hD.sub (ws' := [(ot, .inr (10, [.ref at1, .ref at2, .ref at3, .int lt])), (at1, .inl (cI, 256, .inl ft1)), (at2, .inl (cI, 512, .inl ft2)), (at3, .inl (cI, 512, .inl ft3))]) [0, 1, 2, 3] (by decide +kernel) rfl
              rw [hQQ]
              exact W.zret (v := 0) (ty := .boolean) hx hb hr (rfl) (fun t ht hW => ⟨⟨0, 0, rfl, rfl, ⟨by rw [ht]; exact hP9, hD9, by decide, Or.inr ⟨rfl, fun h => by have h1 := h.1; unfold isLz at h1; omega⟩⟩⟩, hS.F ht⟩) hS.2.2 dX10_canTake_61
            · have tc_12 : sp.toInt ≤ 255 := v_nlt c_12
              refine lv_iload_n hx hb dX10_canTake_53 rfl (lv_at hl 4 rfl) ?_
              have hPc := hP.sub (ws' := []) [] rfl
              have hDc := hD.sub (ws' := []) [] (by decide +kernel) rfl
              have hFc := va_free (wc := []) hD hS hA [] rfl
              refine va_calli (va_runSN (As := [.int le]) (rest := []) ⟨hx, hb, hml, hown, hts⟩ (m_X11_isLetter l dC dI cI cS s.heap.size le ) ⟨va_cnB 1 hts gX10_canTake_X11_isLetter_n35 rfl rfl rfl hN35 (hts (.initialized RX11) (List.mem_of_getElem? (i := 2) rfl)) (by decide +kernel) ⟨Nat.le_of_ble_eq_true rfl, Nat.le_of_ble_eq_true rfl⟩, (hts (.static yX11_isLetter) (List.mem_of_getElem? (i := 1) rfl)), trivial⟩ ⟨fun a U g mk q => by obtain ⟨q0, q1, qP, qK, qD⟩ := q; exact ⟨q0, q1, qP, va_K.moved (u := U) (U := U.calling g mk a) (Vm.Alike.refl U.vm) qK, qD⟩, fun U hU hW => ⟨rfl, by rw [hU], by rw [hU]; exact hPc, va_K.moved hW.alike hK, hDc.weaken (fun _ _ _ _ => trivial)⟩⟩ rfl rfl hl.1 rfl (lv_room (Nat.le_of_ble_eq_true rfl)) dX10_canTake_54 ⟨Nat.le_of_ble_eq_true rfl, Nat.le_of_ble_eq_true rfl⟩) hS (fun q _ h => hFc q h) hFc (fun r_13 u t H1 locs ht hvm hw hB hz1 hk1 hSn => ?_)
              subst hw
              obtain ⟨hP1, hD1, hf13_0, hf13_1⟩ := hB
              rw [ht] at hP1
              obtain ⟨hPn, hDn⟩ := va_join (wr := [(ot, .inr (10, [.ref at1, .ref at2, .ref at3, .int lt])), (at1, .inl (cI, 256, .inl ft1)), (at2, .inl (cI, 512, .inl ft2)), (at3, .inl (cI, 512, .inl ft3))]) (w1 := []) hP hD [] [0, 1, 2, 3] rfl rfl (by decide +kernel) (by decide +kernel) hk1 hFc hP1 hD1
              clear hP hD hS hPc hDc hFc hk1 hz1 hvm ht hP1 hD1
              generalize H1 = H at hPn hSn ⊢
              have hP : va_P (dC, dI) vwCl [(ot, .inr (10, [.ref at1, .ref at2, .ref at3, .int lt])), (at1, .inl (cI, 256, .inl ft1)), (at2, .inl (cI, 512, .inl ft2)), (at3, .inl (cI, 512, .inl ft3))] H := hPn
              have hD : va_D A [(ot, .inr (10, [.ref at1, .ref at2, .ref at3, .int lt])), (at1, .inl (cI, 256, .inl ft1)), (at2, .inl (cI, 512, .inl ft2)), (at3, .inl (cI, 512, .inl ft3))] := hDn
              have hS := hSn
              clear hPn hDn hSn
              refine lv_if_ne (tgt := 62) hx hb dX10_canTake_57 (by decide) (fun c_14 => ?_) (fun c_14 => ?_)
              · have tc_14 : ¬ r_13.toInt = 0 := v_ne c_14
                refine lv_iload hx hb dX10_canTake_62 (lv_at hl 5 rfl) ?_
                refine lv_if_ne (tgt := 74) hx hb dX10_canTake_64 (by decide) (fun c_15 => ?_) (fun c_15 => ?_)
                · have tc_15 : ¬ sp.toInt = 0 := v_ne c_15
                  refine lv_iconst (v := 0) hx hb dX10_canTake_74 (by decide) ?_
                  refine lv_istore (lv' := [(6, .int 0), (5, .int 1), (0, .ref ot), (1, .int fr), (2, .int n), (3, .int le), (4, .int sp)]) hx hb dX10_canTake_75 hl (by decide) rfl (fun ls hl => ?_)
                  have LOOP_77 : ∀ (k_77 : Nat) (i : Int32) (H : Heap) (locs : List Loc) (ls : Array Slot), MSd (n.toInt - i.toInt : Int) k_77 → (0 ≤ i.toInt ∧ i.toInt ≤ 256) → (CTk i.toInt fr le sp (fun k => ft1 k = -1) (nT ft2 ft3)) → va_P (dC, dI) vwCl [(ot, .inr (10, [.ref at1, .ref at2, .ref at3, .int lt])), (at1, .inl (cI, 256, .inl ft1)), (at2, .inl (cI, 512, .inl ft2)), (at3, .inl (cI, 512, .inl ft3))] H → va_D A [(ot, .inr (10, [.ref at1, .ref at2, .ref at3, .int lt])), (at1, .inl (cI, 256, .inl ft1)), (at2, .inl (cI, 512, .inl ft2)), (at3, .inl (cI, 512, .inl ft3))] → va_S A s.heap H locs → lv_has ls 8 [(6, .int i), (0, .ref ot), (1, .int fr), (2, .int n), (3, .int le), (4, .int sp)] → W p l e (headSpec wsX10_canTake ({ frames := 2, cells := 0, slots := 0, locals := 46 } : Room)).room s m ([.ref ot, .int fr, .int n, .int le, .int sp] : List Value).toArray below meth c H locs 0 0 (MQ below QQ ([.ref ot, .int fr, .int n, .int le, .int sp] : List Value).toArray s 0 0 A) (F0 m 77 ls []) := by
                    clear hP hD hS hl
                    intro k_77
                    induction k_77 with
                    | zero =>
                      intro i H locs ls hm_77 g_i hct hP hD hS hl
                      exact ms_0 hm_77
                    | succ k_77 ih_77 =>
                      intro i H locs ls hm_77 g_i hct hP hD hS hl
                      refine lv_iload hx hb dX10_canTake_77 (lv_at hl 0 rfl) ?_
                      refine lv_iload_n hx hb dX10_canTake_79 rfl (lv_at hl 3 rfl) ?_
                      refine lv_icmp_ge (tgt := 130) hx hb dX10_canTake_80 (by decide) (fun c_16 => ?_) (fun c_16 => ?_)
                      · have tc_16 : n.toInt ≤ i.toInt := v_le c_16
                        refine lv_iconst (v := 1) hx hb dX10_canTake_130 (by decide) ?_
                        have hP9 := hP.sub (ws' := [(ot, .inr (10, [.ref at1, .ref at2, .ref at3, .int lt])), (at1, .inl (cI, 256, .inl ft1)), (at2, .inl (cI, 512, .inl ft2)), (at3, .inl (cI, 512, .inl ft3))]) [0, 1, 2, 3] rfl
                        have hD9 := hD.sub (ws' := [(ot, .inr (10, [.ref at1, .ref at2, .ref at3, .int lt])), (at1, .inl (cI, 256, .inl ft1)), (at2, .inl (cI, 512, .inl ft2)), (at3, .inl (cI, 512, .inl ft3))]) [0, 1, 2, 3] (by decide +kernel) rfl
                        rw [hQQ]
                        exact W.zret (v := 1) (ty := .boolean) hx hb hr (rfl) (fun t ht hW => ⟨⟨1, 1, rfl, rfl, ⟨by rw [ht]; exact hP9, hD9, by decide, Or.inl ⟨rfl, by unfold isLz; omega, CTk_le hct (by omega)⟩⟩⟩, hS.F ht⟩) hS.2.2 dX10_canTake_131
                      · have tc_16 : i.toInt < n.toInt := v_nle c_16
                        refine lv_iload_n hx hb dX10_canTake_83 rfl (lv_at hl 4 rfl) ?_
                        refine lv_iload hx hb dX10_canTake_84 (lv_at hl 0 rfl) ?_
                        refine lv_iload hx hb dX10_canTake_86 (lv_at hl 5 rfl) ?_
                        refine lv_imul hx hb dX10_canTake_88 ?_
                        refine lv_topi (fun x_17 ex_17 => ?_)
                        refine lv_iadd hx hb dX10_canTake_89 ?_
                        refine lv_topi (fun x_18 ex_18 => ?_)
                        have rv18_0 := v_rng le
                        have rv18_1 := v_rng x_17
                        refine lv_istore (lv' := [(7, .int x_18), (6, .int i), (0, .ref ot), (1, .int fr), (2, .int n), (3, .int le), (4, .int sp)]) hx hb dX10_canTake_90 hl (by decide) rfl (fun ls hl => ?_)
                        refine lv_iload hx hb dX10_canTake_92 (lv_at hl 0 rfl) ?_
                        have hPc := hP.sub (ws' := []) [] rfl
                        have hDc := hD.sub (ws' := []) [] (by decide +kernel) rfl
                        have hFc := va_free (wc := []) hD hS hA [] rfl
                        refine va_calli (va_runSN (As := [.int x_18]) (rest := []) ⟨hx, hb, hml, hown, hts⟩ (m_X11_isLetter l dC dI cI cS H.size x_18 ) ⟨va_cnB 1 hts gX10_canTake_X11_isLetter_n35 rfl rfl rfl hN35 (hts (.initialized RX11) (List.mem_of_getElem? (i := 2) rfl)) (by decide +kernel) ⟨Nat.le_of_ble_eq_true rfl, Nat.le_of_ble_eq_true rfl⟩, (hts (.static yX11_isLetter) (List.mem_of_getElem? (i := 1) rfl)), trivial⟩ ⟨fun a U g mk q => by obtain ⟨q0, q1, qP, qK, qD⟩ := q; exact ⟨q0, q1, qP, va_K.moved (u := U) (U := U.calling g mk a) (Vm.Alike.refl U.vm) qK, qD⟩, fun U hU hW => ⟨rfl, by rw [hU], by rw [hU]; exact hPc, va_K.moved hW.alike hK, hDc.weaken (fun _ _ _ _ => trivial)⟩⟩ rfl rfl hl.1 rfl (lv_room (Nat.le_of_ble_eq_true rfl)) dX10_canTake_94 ⟨Nat.le_of_ble_eq_true rfl, Nat.le_of_ble_eq_true rfl⟩) hS (fun q _ h => hFc q h) hFc (fun r_19 u t H1 locs ht hvm hw hB hz1 hk1 hSn => ?_)
                        subst hw
                        obtain ⟨hP1, hD1, hf19_0, hf19_1⟩ := hB
                        rw [ht] at hP1
                        obtain ⟨hPn, hDn⟩ := va_join (wr := [(ot, .inr (10, [.ref at1, .ref at2, .ref at3, .int lt])), (at1, .inl (cI, 256, .inl ft1)), (at2, .inl (cI, 512, .inl ft2)), (at3, .inl (cI, 512, .inl ft3))]) (w1 := []) hP hD [] [0, 1, 2, 3] rfl rfl (by decide +kernel) (by decide +kernel) hk1 hFc hP1 hD1
                        clear hP hD hS hPc hDc hFc hk1 hz1 hvm ht hP1 hD1
                        generalize H1 = H at hPn hSn ⊢
                        have hP : va_P (dC, dI) vwCl [(ot, .inr (10, [.ref at1, .ref at2, .ref at3, .int lt])), (at1, .inl (cI, 256, .inl ft1)), (at2, .inl (cI, 512, .inl ft2)), (at3, .inl (cI, 512, .inl ft3))] H := hPn
                        have hD : va_D A [(ot, .inr (10, [.ref at1, .ref at2, .ref at3, .int lt])), (at1, .inl (cI, 256, .inl ft1)), (at2, .inl (cI, 512, .inl ft2)), (at3, .inl (cI, 512, .inl ft3))] := hDn
                        have hS := hSn
                        clear hPn hDn hSn
                        refine lv_if_eq (tgt := 122) hx hb dX10_canTake_97 (by decide) (fun c_20 => ?_) (fun c_20 => ?_)
                        · have tc_20 : r_19.toInt = 0 := v_eq c_20
                          refine lv_iconst (v := 0) hx hb dX10_canTake_122 (by decide) ?_
                          have hP9 := hP.sub (ws' := [(ot, .inr (10, [.ref at1, .ref at2, .ref at3, .int lt])), (at1, .inl (cI, 256, .inl ft1)), (at2, .inl (cI, 512, .inl ft2)), (at3, .inl (cI, 512, .inl ft3))]) [0, 1, 2, 3] rfl
                          have hD9 := hD.sub (ws' := [(ot, .inr (10, [.ref at1, .ref at2, .ref at3, .int lt])), (at1, .inl (cI, 256, .inl ft1)), (at2, .inl (cI, 512, .inl ft2)), (at3, .inl (cI, 512, .inl ft3))]) [0, 1, 2, 3] (by decide +kernel) rfl
                          rw [hQQ]
                          exact W.zret (v := 0) (ty := .boolean) hx hb hr (rfl) (fun t ht hW => ⟨⟨0, 0, rfl, rfl, ⟨by rw [ht]; exact hP9, hD9, by decide, Or.inr ⟨rfl, CT_no ex_17 ex_18 (by omega) (by omega) (fun z => by have z1 := z.1; unfold isLz at z1; omega)⟩⟩⟩, hS.F ht⟩) hS.2.2 dX10_canTake_123
                        · have tc_20 : ¬ r_19.toInt = 0 := v_ne c_20
                          refine lv_aload_n hx hb dX10_canTake_100 rfl (lv_at hl 2 rfl) ?_
                          refine lv_iload_n hx hb dX10_canTake_101 rfl (lv_at hl 3 rfl) ?_
                          refine lv_iload hx hb dX10_canTake_102 (lv_at hl 1 rfl) ?_
                          refine lv_iadd hx hb dX10_canTake_104 ?_
                          refine lv_topi (fun x_21 ex_21 => ?_)
                          have tx_21 : x_21.toInt = fr.toInt + i.toInt := v_add ex_21 (by show -2147483648 ≤ fr.toInt + i.toInt; omega) (by show fr.toInt + i.toInt < 2147483648; omega)
                          have hPc := hP.sub (ws' := [(ot, .inr (10, [.ref at1, .ref at2, .ref at3, .int lt])), (at1, .inl (cI, 256, .inl ft1))]) [0, 1] rfl
                          have hDc := hD.sub (ws' := [(ot, .inr (10, [.ref at1, .ref at2, .ref at3, .int lt])), (at1, .inl (cI, 256, .inl ft1))]) [0, 1] (by decide +kernel) rfl
                          have hFc := va_free (wc := [(ot, .inr (10, [.ref at1, .ref at2, .ref at3, .int lt])), (at1, .inl (cI, 256, .inl ft1))]) hD hS hA [0, 1] rfl
                          refine va_calli (va_runV (As := [.int x_21]) (rest := []) ⟨hx, hb, hml, hown, hts⟩ (m_X10_letterFor l dC dI cI cS H.size ot at1 at2 at3 lt ft1 x_21 ) (cwV 1 hts gX10_canTake_X10_letterFor rfl rfl rfl (by decide +kernel) ⟨Nat.le_of_ble_eq_true rfl, Nat.le_of_ble_eq_true rfl⟩) ⟨fun a U g mk q => by obtain ⟨q0, q1, qP, qK, qD⟩ := q; exact ⟨q0, q1, qP, va_K.moved (u := U) (U := U.calling g mk a) (Vm.Alike.refl U.vm) qK, qD⟩, va_recv hK hPc (ci := 10) (q0 := 0) rfl rfl, fun U hU hW => ⟨rfl, by rw [hU], by rw [hU]; exact hPc, va_K.moved hW.alike hK, hDc.weaken (fun _ _ _ _ => trivial)⟩⟩ rfl rfl hl.1 rfl (lv_room (Nat.le_of_ble_eq_true rfl)) dX10_canTake_105 ⟨Nat.le_of_ble_eq_true rfl, Nat.le_of_ble_eq_true rfl⟩) hS (fun q _ h => hFc q h) hFc (fun r_22 u t H1 locs ht hvm hw hB hz1 hk1 hSn => ?_)
                          subst hw
                          obtain ⟨hP1, hD1, hf22_0⟩ := hB
                          rw [ht] at hP1
                          obtain ⟨hPn, hDn⟩ := va_join (wr := [(at2, .inl (cI, 512, .inl ft2)), (at3, .inl (cI, 512, .inl ft3))]) (w1 := [(ot, .inr (10, [.ref at1, .ref at2, .ref at3, .int lt])), (at1, .inl (cI, 256, .inl ft1))]) hP hD [0, 1] [2, 3] rfl rfl (by decide +kernel) (by decide +kernel) hk1 hFc hP1 hD1
                          clear hP hD hS hPc hDc hFc hk1 hz1 hvm ht hP1 hD1
                          generalize H1 = H at hPn hSn ⊢
                          have hP : va_P (dC, dI) vwCl [(at2, .inl (cI, 512, .inl ft2)), (at3, .inl (cI, 512, .inl ft3)), (ot, .inr (10, [.ref at1, .ref at2, .ref at3, .int lt])), (at1, .inl (cI, 256, .inl ft1))] H := hPn
                          have hD : va_D A [(at2, .inl (cI, 512, .inl ft2)), (at3, .inl (cI, 512, .inl ft3)), (ot, .inr (10, [.ref at1, .ref at2, .ref at3, .int lt])), (at1, .inl (cI, 256, .inl ft1))] := hDn
                          have hS := hSn
                          clear hPn hDn hSn
                          refine lv_iconst (v := (-1)) hx hb dX10_canTake_108 (by decide) ?_
                          refine lv_icmp_ne (tgt := 122) hx hb dX10_canTake_109 (by decide) (fun c_23 => ?_) (fun c_23 => ?_)
                          · have tc_23 : ¬ r_22.toInt = (-1) := v_ne c_23
                            refine lv_iconst (v := 0) hx hb dX10_canTake_122 (by decide) ?_
                            have hP9 := hP.sub (ws' := [(ot, .inr (10, [.ref at1, .ref at2, .ref at3, .int lt])), (at1, .inl (cI, 256, .inl ft1)), (at2, .inl (cI, 512, .inl ft2)), (at3, .inl (cI, 512, .inl ft3))]) [2, 3, 0, 1] rfl
                            have hD9 := hD.sub (ws' := [(ot, .inr (10, [.ref at1, .ref at2, .ref at3, .int lt])), (at1, .inl (cI, 256, .inl ft1)), (at2, .inl (cI, 512, .inl ft2)), (at3, .inl (cI, 512, .inl ft3))]) [2, 3, 0, 1] (by decide +kernel) rfl
                            rw [hQQ]
                            exact W.zret (v := 0) (ty := .boolean) hx hb hr (rfl) (fun t ht hW => ⟨⟨0, 0, rfl, rfl, ⟨by rw [ht]; exact hP9, hD9, by decide, Or.inr ⟨rfl, CT_no ex_17 ex_18 (by omega) (by omega) (fun z => c_23 ((get_free (w := (fr.toInt + i.toInt).toNat) hf22_0 (by omega) (by omega) (by omega)).symm.trans z.2.1))⟩⟩⟩, hS.F ht⟩) hS.2.2 dX10_canTake_123
                          · have tc_23 : r_22.toInt = (-1) := v_eq c_23
                            refine lv_aload_n hx hb dX10_canTake_112 rfl (lv_at hl 2 rfl) ?_
                            refine lv_iload hx hb dX10_canTake_113 (lv_at hl 0 rfl) ?_
                            have hPc := hP.sub (ws' := [(ot, .inr (10, [.ref at1, .ref at2, .ref at3, .int lt])), (at2, .inl (cI, 512, .inl ft2)), (at3, .inl (cI, 512, .inl ft3))]) [2, 0, 1] rfl
                            have hDc := hD.sub (ws' := [(ot, .inr (10, [.ref at1, .ref at2, .ref at3, .int lt])), (at2, .inl (cI, 512, .inl ft2)), (at3, .inl (cI, 512, .inl ft3))]) [2, 0, 1] (by decide +kernel) rfl
                            have hFc := va_free (wc := [(ot, .inr (10, [.ref at1, .ref at2, .ref at3, .int lt])), (at2, .inl (cI, 512, .inl ft2)), (at3, .inl (cI, 512, .inl ft3))]) hD hS hA [2, 0, 1] rfl
                            refine va_calli (va_runV (As := [.int x_18]) (rest := []) ⟨hx, hb, hml, hown, hts⟩ (f_X10_byteFor l dC dI cI cS H.size ot at1 at2 at3 lt ft2 ft3 x_18 (hT) (ho)) (cwV 1 hts gX10_canTake_X10_byteFor rfl rfl rfl (by decide +kernel) ⟨Nat.le_of_ble_eq_true rfl, Nat.le_of_ble_eq_true rfl⟩) ⟨fun a U g mk q => by obtain ⟨q0, q1, qP, qK, qD⟩ := q; exact ⟨q0, q1, qP, va_K.moved (u := U) (U := U.calling g mk a) (Vm.Alike.refl U.vm) qK, qD⟩, va_recv hK hPc (ci := 10) (q0 := 0) rfl rfl, fun U hU hW => ⟨rfl, by rw [hU], by rw [hU]; exact hPc, va_K.moved hW.alike hK, hDc.weaken (fun _ _ _ _ => trivial)⟩⟩ rfl rfl hl.1 rfl (lv_room (Nat.le_of_ble_eq_true rfl)) dX10_canTake_115 ⟨Nat.le_of_ble_eq_true rfl, Nat.le_of_ble_eq_true rfl⟩) hS (fun q _ h => hFc q h) hFc (fun r_24 u t H1 locs ht hvm hw hB hz1 hk1 hSn => ?_)
                            subst hw
                            obtain ⟨hP1, hD1, hf24_0⟩ := hB
                            rw [ht] at hP1
                            obtain ⟨hPn, hDn⟩ := va_join (wr := [(at1, .inl (cI, 256, .inl ft1))]) (w1 := [(ot, .inr (10, [.ref at1, .ref at2, .ref at3, .int lt])), (at2, .inl (cI, 512, .inl ft2)), (at3, .inl (cI, 512, .inl ft3))]) hP hD [2, 0, 1] [3] rfl rfl (by decide +kernel) (by decide +kernel) hk1 hFc hP1 hD1
                            clear hP hD hS hPc hDc hFc hk1 hz1 hvm ht hP1 hD1
                            generalize H1 = H at hPn hSn ⊢
                            have hP : va_P (dC, dI) vwCl [(at1, .inl (cI, 256, .inl ft1)), (ot, .inr (10, [.ref at1, .ref at2, .ref at3, .int lt])), (at2, .inl (cI, 512, .inl ft2)), (at3, .inl (cI, 512, .inl ft3))] H := hPn
                            have hD : va_D A [(at1, .inl (cI, 256, .inl ft1)), (ot, .inr (10, [.ref at1, .ref at2, .ref at3, .int lt])), (at2, .inl (cI, 512, .inl ft2)), (at3, .inl (cI, 512, .inl ft3))] := hDn
                            have hS := hSn
                            clear hPn hDn hSn
                            refine lv_iconst (v := (-1)) hx hb dX10_canTake_118 (by decide) ?_
                            refine lv_icmp_eq (tgt := 124) hx hb dX10_canTake_119 (by decide) (fun c_25 => ?_) (fun c_25 => ?_)
                            · have tc_25 : r_24.toInt = (-1) := v_eq c_25
                              obtain ⟨x_26, ex_26⟩ : ∃ y : Int32, y = i + 1 := ⟨_, rfl⟩
                              have tx_26 : x_26.toInt = i.toInt + 1 := v_add ex_26 (by show -2147483648 ≤ i.toInt + 1; omega) (by show i.toInt + 1 < 2147483648; omega)
                              refine lv_iinc (v := x_26) (lv' := [(6, .int x_26), (7, .int x_18), (0, .ref ot), (1, .int fr), (2, .int n), (3, .int le), (4, .int sp)]) hx hb dX10_canTake_124 hl (k := 1) rfl (by rw [ex_26]; rfl) (by decide) rfl (fun ls hl => ?_)
                              refine lv_goto (tgt := 77) hx hb dX10_canTake_127 (by decide) ?_
                              exact ih_77 x_26 _ _ _ (ms_lt hm_77 (by show ((n.toInt - x_26.toInt : Int)) < n.toInt - i.toInt; omega) (by show (0 : Int) < n.toInt - i.toInt; omega)) (by show 0 ≤ x_26.toInt ∧ x_26.toInt ≤ 256; omega) (CTk_s hct ex_17 ex_18 (by omega) (by unfold isLz; omega) ((get_free (w := (fr.toInt + i.toInt).toNat) hf22_0 (by omega) (by omega) (by omega)).trans c_23) (bf_none hf24_0 c_25)) (hP.sub [1, 0, 2, 3] rfl) (hD.sub [1, 0, 2, 3] (by decide +kernel) rfl) hS (lv_sub hl [0, 2, 3, 4, 5, 6] rfl)
                            · have tc_25 : ¬ r_24.toInt = (-1) := v_ne c_25
                              refine lv_iconst (v := 0) hx hb dX10_canTake_122 (by decide) ?_
                              have hP9 := hP.sub (ws' := [(ot, .inr (10, [.ref at1, .ref at2, .ref at3, .int lt])), (at1, .inl (cI, 256, .inl ft1)), (at2, .inl (cI, 512, .inl ft2)), (at3, .inl (cI, 512, .inl ft3))]) [1, 0, 2, 3] rfl
                              have hD9 := hD.sub (ws' := [(ot, .inr (10, [.ref at1, .ref at2, .ref at3, .int lt])), (at1, .inl (cI, 256, .inl ft1)), (at2, .inl (cI, 512, .inl ft2)), (at3, .inl (cI, 512, .inl ft3))]) [1, 0, 2, 3] (by decide +kernel) rfl
                              rw [hQQ]
                              exact W.zret (v := 0) (ty := .boolean) hx hb hr (rfl) (fun t ht hW => ⟨⟨0, 0, rfl, rfl, ⟨by rw [ht]; exact hP9, hD9, by decide, Or.inr ⟨rfl, CT_no ex_17 ex_18 (by omega) (by omega) (fun z => bf_some hf24_0 c_25 z.2.2)⟩⟩⟩, hS.F ht⟩) hS.2.2 dX10_canTake_123
                  exact LOOP_77 _ 0 _ _ _ (ms_s _) (by decide) (CTk_0 (by decide)) hP hD hS (lv_sub hl [0, 2, 3, 4, 5, 6] rfl)
                · have tc_15 : sp.toInt = 0 := v_eq c_15
                  refine lv_iload_n hx hb dX10_canTake_67 rfl (lv_at hl 3 rfl) ?_
                  refine lv_iconst (v := 1) hx hb dX10_canTake_68 (by decide) ?_
                  refine lv_icmp_le (tgt := 74) hx hb dX10_canTake_69 (by decide) (fun c_27 => ?_) (fun c_27 => ?_)
                  · have tc_27 : n.toInt ≤ 1 := v_le c_27
                    refine lv_iconst (v := 0) hx hb dX10_canTake_74 (by decide) ?_
                    refine lv_istore (lv' := [(6, .int 0), (5, .int 1), (0, .ref ot), (1, .int fr), (2, .int n), (3, .int le), (4, .int sp)]) hx hb dX10_canTake_75 hl (by decide) rfl (fun ls hl => ?_)
                    have LOOP_77 : ∀ (k_77 : Nat) (i : Int32) (H : Heap) (locs : List Loc) (ls : Array Slot), MSd (n.toInt - i.toInt : Int) k_77 → (0 ≤ i.toInt ∧ i.toInt ≤ 256) → (CTk i.toInt fr le sp (fun k => ft1 k = -1) (nT ft2 ft3)) → va_P (dC, dI) vwCl [(ot, .inr (10, [.ref at1, .ref at2, .ref at3, .int lt])), (at1, .inl (cI, 256, .inl ft1)), (at2, .inl (cI, 512, .inl ft2)), (at3, .inl (cI, 512, .inl ft3))] H → va_D A [(ot, .inr (10, [.ref at1, .ref at2, .ref at3, .int lt])), (at1, .inl (cI, 256, .inl ft1)), (at2, .inl (cI, 512, .inl ft2)), (at3, .inl (cI, 512, .inl ft3))] → va_S A s.heap H locs → lv_has ls 8 [(6, .int i), (0, .ref ot), (1, .int fr), (2, .int n), (3, .int le), (4, .int sp)] → W p l e (headSpec wsX10_canTake ({ frames := 2, cells := 0, slots := 0, locals := 46 } : Room)).room s m ([.ref ot, .int fr, .int n, .int le, .int sp] : List Value).toArray below meth c H locs 0 0 (MQ below QQ ([.ref ot, .int fr, .int n, .int le, .int sp] : List Value).toArray s 0 0 A) (F0 m 77 ls []) := by
                      clear hP hD hS hl
                      intro k_77
                      induction k_77 with
                      | zero =>
                        intro i H locs ls hm_77 g_i hct hP hD hS hl
                        exact ms_0 hm_77
                      | succ k_77 ih_77 =>
                        intro i H locs ls hm_77 g_i hct hP hD hS hl
                        refine lv_iload hx hb dX10_canTake_77 (lv_at hl 0 rfl) ?_
                        refine lv_iload_n hx hb dX10_canTake_79 rfl (lv_at hl 3 rfl) ?_
                        refine lv_icmp_ge (tgt := 130) hx hb dX10_canTake_80 (by decide) (fun c_28 => ?_) (fun c_28 => ?_)
                        · have tc_28 : n.toInt ≤ i.toInt := v_le c_28
                          refine lv_iconst (v := 1) hx hb dX10_canTake_130 (by decide) ?_
                          have hP9 := hP.sub (ws' := [(ot, .inr (10, [.ref at1, .ref at2, .ref at3, .int lt])), (at1, .inl (cI, 256, .inl ft1)), (at2, .inl (cI, 512, .inl ft2)), (at3, .inl (cI, 512, .inl ft3))]) [0, 1, 2, 3] rfl
                          have hD9 := hD.sub (ws' := [(ot, .inr (10, [.ref at1, .ref at2, .ref at3, .int lt])), (at1, .inl (cI, 256, .inl ft1)), (at2, .inl (cI, 512, .inl ft2)), (at3, .inl (cI, 512, .inl ft3))]) [0, 1, 2, 3] (by decide +kernel) rfl
                          rw [hQQ]
                          exact W.zret (v := 1) (ty := .boolean) hx hb hr (rfl) (fun t ht hW => ⟨⟨1, 1, rfl, rfl, ⟨by rw [ht]; exact hP9, hD9, by decide, Or.inl ⟨rfl, by unfold isLz; omega, CTk_le hct (by omega)⟩⟩⟩, hS.F ht⟩) hS.2.2 dX10_canTake_131
                        · have tc_28 : i.toInt < n.toInt := v_nle c_28
                          refine lv_iload_n hx hb dX10_canTake_83 rfl (lv_at hl 4 rfl) ?_
                          refine lv_iload hx hb dX10_canTake_84 (lv_at hl 0 rfl) ?_
                          refine lv_iload hx hb dX10_canTake_86 (lv_at hl 5 rfl) ?_
                          refine lv_imul hx hb dX10_canTake_88 ?_
                          refine lv_topi (fun x_29 ex_29 => ?_)
                          refine lv_iadd hx hb dX10_canTake_89 ?_
                          refine lv_topi (fun x_30 ex_30 => ?_)
                          have rv30_0 := v_rng le
                          have rv30_1 := v_rng x_29
                          refine lv_istore (lv' := [(7, .int x_30), (6, .int i), (0, .ref ot), (1, .int fr), (2, .int n), (3, .int le), (4, .int sp)]) hx hb dX10_canTake_90 hl (by decide) rfl (fun ls hl => ?_)
                          refine lv_iload hx hb dX10_canTake_92 (lv_at hl 0 rfl) ?_
                          have hPc := hP.sub (ws' := []) [] rfl
                          have hDc := hD.sub (ws' := []) [] (by decide +kernel) rfl
                          have hFc := va_free (wc := []) hD hS hA [] rfl
                          refine va_calli (va_runSN (As := [.int x_30]) (rest := []) ⟨hx, hb, hml, hown, hts⟩ (m_X11_isLetter l dC dI cI cS H.size x_30 ) ⟨va_cnB 1 hts gX10_canTake_X11_isLetter_n35 rfl rfl rfl hN35 (hts (.initialized RX11) (List.mem_of_getElem? (i := 2) rfl)) (by decide +kernel) ⟨Nat.le_of_ble_eq_true rfl, Nat.le_of_ble_eq_true rfl⟩, (hts (.static yX11_isLetter) (List.mem_of_getElem? (i := 1) rfl)), trivial⟩ ⟨fun a U g mk q => by obtain ⟨q0, q1, qP, qK, qD⟩ := q; exact ⟨q0, q1, qP, va_K.moved (u := U) (U := U.calling g mk a) (Vm.Alike.refl U.vm) qK, qD⟩, fun U hU hW => ⟨rfl, by rw [hU], by rw [hU]; exact hPc, va_K.moved hW.alike hK, hDc.weaken (fun _ _ _ _ => trivial)⟩⟩ rfl rfl hl.1 rfl (lv_room (Nat.le_of_ble_eq_true rfl)) dX10_canTake_94 ⟨Nat.le_of_ble_eq_true rfl, Nat.le_of_ble_eq_true rfl⟩) hS (fun q _ h => hFc q h) hFc (fun r_31 u t H1 locs ht hvm hw hB hz1 hk1 hSn => ?_)
                          subst hw
                          obtain ⟨hP1, hD1, hf31_0, hf31_1⟩ := hB
                          rw [ht] at hP1
                          obtain ⟨hPn, hDn⟩ := va_join (wr := [(ot, .inr (10, [.ref at1, .ref at2, .ref at3, .int lt])), (at1, .inl (cI, 256, .inl ft1)), (at2, .inl (cI, 512, .inl ft2)), (at3, .inl (cI, 512, .inl ft3))]) (w1 := []) hP hD [] [0, 1, 2, 3] rfl rfl (by decide +kernel) (by decide +kernel) hk1 hFc hP1 hD1
                          clear hP hD hS hPc hDc hFc hk1 hz1 hvm ht hP1 hD1
                          generalize H1 = H at hPn hSn ⊢
                          have hP : va_P (dC, dI) vwCl [(ot, .inr (10, [.ref at1, .ref at2, .ref at3, .int lt])), (at1, .inl (cI, 256, .inl ft1)), (at2, .inl (cI, 512, .inl ft2)), (at3, .inl (cI, 512, .inl ft3))] H := hPn
                          have hD : va_D A [(ot, .inr (10, [.ref at1, .ref at2, .ref at3, .int lt])), (at1, .inl (cI, 256, .inl ft1)), (at2, .inl (cI, 512, .inl ft2)), (at3, .inl (cI, 512, .inl ft3))] := hDn
                          have hS := hSn
                          clear hPn hDn hSn
                          refine lv_if_eq (tgt := 122) hx hb dX10_canTake_97 (by decide) (fun c_32 => ?_) (fun c_32 => ?_)
                          · have tc_32 : r_31.toInt = 0 := v_eq c_32
                            refine lv_iconst (v := 0) hx hb dX10_canTake_122 (by decide) ?_
                            have hP9 := hP.sub (ws' := [(ot, .inr (10, [.ref at1, .ref at2, .ref at3, .int lt])), (at1, .inl (cI, 256, .inl ft1)), (at2, .inl (cI, 512, .inl ft2)), (at3, .inl (cI, 512, .inl ft3))]) [0, 1, 2, 3] rfl
                            have hD9 := hD.sub (ws' := [(ot, .inr (10, [.ref at1, .ref at2, .ref at3, .int lt])), (at1, .inl (cI, 256, .inl ft1)), (at2, .inl (cI, 512, .inl ft2)), (at3, .inl (cI, 512, .inl ft3))]) [0, 1, 2, 3] (by decide +kernel) rfl
                            rw [hQQ]
                            exact W.zret (v := 0) (ty := .boolean) hx hb hr (rfl) (fun t ht hW => ⟨⟨0, 0, rfl, rfl, ⟨by rw [ht]; exact hP9, hD9, by decide, Or.inr ⟨rfl, CT_no ex_29 ex_30 (by omega) (by omega) (fun z => by have z1 := z.1; unfold isLz at z1; omega)⟩⟩⟩, hS.F ht⟩) hS.2.2 dX10_canTake_123
                          · have tc_32 : ¬ r_31.toInt = 0 := v_ne c_32
                            refine lv_aload_n hx hb dX10_canTake_100 rfl (lv_at hl 2 rfl) ?_
                            refine lv_iload_n hx hb dX10_canTake_101 rfl (lv_at hl 3 rfl) ?_
                            refine lv_iload hx hb dX10_canTake_102 (lv_at hl 1 rfl) ?_
                            refine lv_iadd hx hb dX10_canTake_104 ?_
                            refine lv_topi (fun x_33 ex_33 => ?_)
                            have tx_33 : x_33.toInt = fr.toInt + i.toInt := v_add ex_33 (by show -2147483648 ≤ fr.toInt + i.toInt; omega) (by show fr.toInt + i.toInt < 2147483648; omega)
                            have hPc := hP.sub (ws' := [(ot, .inr (10, [.ref at1, .ref at2, .ref at3, .int lt])), (at1, .inl (cI, 256, .inl ft1))]) [0, 1] rfl
                            have hDc := hD.sub (ws' := [(ot, .inr (10, [.ref at1, .ref at2, .ref at3, .int lt])), (at1, .inl (cI, 256, .inl ft1))]) [0, 1] (by decide +kernel) rfl
                            have hFc := va_free (wc := [(ot, .inr (10, [.ref at1, .ref at2, .ref at3, .int lt])), (at1, .inl (cI, 256, .inl ft1))]) hD hS hA [0, 1] rfl
                            refine va_calli (va_runV (As := [.int x_33]) (rest := []) ⟨hx, hb, hml, hown, hts⟩ (m_X10_letterFor l dC dI cI cS H.size ot at1 at2 at3 lt ft1 x_33 ) (cwV 1 hts gX10_canTake_X10_letterFor rfl rfl rfl (by decide +kernel) ⟨Nat.le_of_ble_eq_true rfl, Nat.le_of_ble_eq_true rfl⟩) ⟨fun a U g mk q => by obtain ⟨q0, q1, qP, qK, qD⟩ := q; exact ⟨q0, q1, qP, va_K.moved (u := U) (U := U.calling g mk a) (Vm.Alike.refl U.vm) qK, qD⟩, va_recv hK hPc (ci := 10) (q0 := 0) rfl rfl, fun U hU hW => ⟨rfl, by rw [hU], by rw [hU]; exact hPc, va_K.moved hW.alike hK, hDc.weaken (fun _ _ _ _ => trivial)⟩⟩ rfl rfl hl.1 rfl (lv_room (Nat.le_of_ble_eq_true rfl)) dX10_canTake_105 ⟨Nat.le_of_ble_eq_true rfl, Nat.le_of_ble_eq_true rfl⟩) hS (fun q _ h => hFc q h) hFc (fun r_34 u t H1 locs ht hvm hw hB hz1 hk1 hSn => ?_)
                            subst hw
                            obtain ⟨hP1, hD1, hf34_0⟩ := hB
                            rw [ht] at hP1
                            obtain ⟨hPn, hDn⟩ := va_join (wr := [(at2, .inl (cI, 512, .inl ft2)), (at3, .inl (cI, 512, .inl ft3))]) (w1 := [(ot, .inr (10, [.ref at1, .ref at2, .ref at3, .int lt])), (at1, .inl (cI, 256, .inl ft1))]) hP hD [0, 1] [2, 3] rfl rfl (by decide +kernel) (by decide +kernel) hk1 hFc hP1 hD1
                            clear hP hD hS hPc hDc hFc hk1 hz1 hvm ht hP1 hD1
                            generalize H1 = H at hPn hSn ⊢
                            have hP : va_P (dC, dI) vwCl [(at2, .inl (cI, 512, .inl ft2)), (at3, .inl (cI, 512, .inl ft3)), (ot, .inr (10, [.ref at1, .ref at2, .ref at3, .int lt])), (at1, .inl (cI, 256, .inl ft1))] H := hPn
                            have hD : va_D A [(at2, .inl (cI, 512, .inl ft2)), (at3, .inl (cI, 512, .inl ft3)), (ot, .inr (10, [.ref at1, .ref at2, .ref at3, .int lt])), (at1, .inl (cI, 256, .inl ft1))] := hDn
                            have hS := hSn
                            clear hPn hDn hSn
                            refine lv_iconst (v := (-1)) hx hb dX10_canTake_108 (by decide) ?_
                            refine lv_icmp_ne (tgt := 122) hx hb dX10_canTake_109 (by decide) (fun c_35 => ?_) (fun c_35 => ?_)
                            · have tc_35 : ¬ r_34.toInt = (-1) := v_ne c_35
                              refine lv_iconst (v := 0) hx hb dX10_canTake_122 (by decide) ?_
                              have hP9 := hP.sub (ws' := [(ot, .inr (10, [.ref at1, .ref at2, .ref at3, .int lt])), (at1, .inl (cI, 256, .inl ft1)), (at2, .inl (cI, 512, .inl ft2)), (at3, .inl (cI, 512, .inl ft3))]) [2, 3, 0, 1] rfl
                              have hD9 := hD.sub (ws' := [(ot, .inr (10, [.ref at1, .ref at2, .ref at3, .int lt])), (at1, .inl (cI, 256, .inl ft1)), (at2, .inl (cI, 512, .inl ft2)), (at3, .inl (cI, 512, .inl ft3))]) [2, 3, 0, 1] (by decide +kernel) rfl
                              rw [hQQ]
                              exact W.zret (v := 0) (ty := .boolean) hx hb hr (rfl) (fun t ht hW => ⟨⟨0, 0, rfl, rfl, ⟨by rw [ht]; exact hP9, hD9, by decide, Or.inr ⟨rfl, CT_no ex_29 ex_30 (by omega) (by omega) (fun z => c_35 ((get_free (w := (fr.toInt + i.toInt).toNat) hf34_0 (by omega) (by omega) (by omega)).symm.trans z.2.1))⟩⟩⟩, hS.F ht⟩) hS.2.2 dX10_canTake_123
                            · have tc_35 : r_34.toInt = (-1) := v_eq c_35
                              refine lv_aload_n hx hb dX10_canTake_112 rfl (lv_at hl 2 rfl) ?_
                              refine lv_iload hx hb dX10_canTake_113 (lv_at hl 0 rfl) ?_
                              have hPc := hP.sub (ws' := [(ot, .inr (10, [.ref at1, .ref at2, .ref at3, .int lt])), (at2, .inl (cI, 512, .inl ft2)), (at3, .inl (cI, 512, .inl ft3))]) [2, 0, 1] rfl
                              have hDc := hD.sub (ws' := [(ot, .inr (10, [.ref at1, .ref at2, .ref at3, .int lt])), (at2, .inl (cI, 512, .inl ft2)), (at3, .inl (cI, 512, .inl ft3))]) [2, 0, 1] (by decide +kernel) rfl
                              have hFc := va_free (wc := [(ot, .inr (10, [.ref at1, .ref at2, .ref at3, .int lt])), (at2, .inl (cI, 512, .inl ft2)), (at3, .inl (cI, 512, .inl ft3))]) hD hS hA [2, 0, 1] rfl
                              refine va_calli (va_runV (As := [.int x_30]) (rest := []) ⟨hx, hb, hml, hown, hts⟩ (f_X10_byteFor l dC dI cI cS H.size ot at1 at2 at3 lt ft2 ft3 x_30 (hT) (ho)) (cwV 1 hts gX10_canTake_X10_byteFor rfl rfl rfl (by decide +kernel) ⟨Nat.le_of_ble_eq_true rfl, Nat.le_of_ble_eq_true rfl⟩) ⟨fun a U g mk q => by obtain ⟨q0, q1, qP, qK, qD⟩ := q; exact ⟨q0, q1, qP, va_K.moved (u := U) (U := U.calling g mk a) (Vm.Alike.refl U.vm) qK, qD⟩, va_recv hK hPc (ci := 10) (q0 := 0) rfl rfl, fun U hU hW => ⟨rfl, by rw [hU], by rw [hU]; exact hPc, va_K.moved hW.alike hK, hDc.weaken (fun _ _ _ _ => trivial)⟩⟩ rfl rfl hl.1 rfl (lv_room (Nat.le_of_ble_eq_true rfl)) dX10_canTake_115 ⟨Nat.le_of_ble_eq_true rfl, Nat.le_of_ble_eq_true rfl⟩) hS (fun q _ h => hFc q h) hFc (fun r_36 u t H1 locs ht hvm hw hB hz1 hk1 hSn => ?_)
                              subst hw
                              obtain ⟨hP1, hD1, hf36_0⟩ := hB
                              rw [ht] at hP1
                              obtain ⟨hPn, hDn⟩ := va_join (wr := [(at1, .inl (cI, 256, .inl ft1))]) (w1 := [(ot, .inr (10, [.ref at1, .ref at2, .ref at3, .int lt])), (at2, .inl (cI, 512, .inl ft2)), (at3, .inl (cI, 512, .inl ft3))]) hP hD [2, 0, 1] [3] rfl rfl (by decide +kernel) (by decide +kernel) hk1 hFc hP1 hD1
                              clear hP hD hS hPc hDc hFc hk1 hz1 hvm ht hP1 hD1
                              generalize H1 = H at hPn hSn ⊢
                              have hP : va_P (dC, dI) vwCl [(at1, .inl (cI, 256, .inl ft1)), (ot, .inr (10, [.ref at1, .ref at2, .ref at3, .int lt])), (at2, .inl (cI, 512, .inl ft2)), (at3, .inl (cI, 512, .inl ft3))] H := hPn
                              have hD : va_D A [(at1, .inl (cI, 256, .inl ft1)), (ot, .inr (10, [.ref at1, .ref at2, .ref at3, .int lt])), (at2, .inl (cI, 512, .inl ft2)), (at3, .inl (cI, 512, .inl ft3))] := hDn
                              have hS := hSn
                              clear hPn hDn hSn
                              refine lv_iconst (v := (-1)) hx hb dX10_canTake_118 (by decide) ?_
                              refine lv_icmp_eq (tgt := 124) hx hb dX10_canTake_119 (by decide) (fun c_37 => ?_) (fun c_37 => ?_)
                              · have tc_37 : r_36.toInt = (-1) := v_eq c_37
                                obtain ⟨x_38, ex_38⟩ : ∃ y : Int32, y = i + 1 := ⟨_, rfl⟩
                                have tx_38 : x_38.toInt = i.toInt + 1 := v_add ex_38 (by show -2147483648 ≤ i.toInt + 1; omega) (by show i.toInt + 1 < 2147483648; omega)
                                refine lv_iinc (v := x_38) (lv' := [(6, .int x_38), (7, .int x_30), (0, .ref ot), (1, .int fr), (2, .int n), (3, .int le), (4, .int sp)]) hx hb dX10_canTake_124 hl (k := 1) rfl (by rw [ex_38]; rfl) (by decide) rfl (fun ls hl => ?_)
                                refine lv_goto (tgt := 77) hx hb dX10_canTake_127 (by decide) ?_
                                exact ih_77 x_38 _ _ _ (ms_lt hm_77 (by show ((n.toInt - x_38.toInt : Int)) < n.toInt - i.toInt; omega) (by show (0 : Int) < n.toInt - i.toInt; omega)) (by show 0 ≤ x_38.toInt ∧ x_38.toInt ≤ 256; omega) (CTk_s hct ex_29 ex_30 (by omega) (by unfold isLz; omega) ((get_free (w := (fr.toInt + i.toInt).toNat) hf34_0 (by omega) (by omega) (by omega)).trans c_35) (bf_none hf36_0 c_37)) (hP.sub [1, 0, 2, 3] rfl) (hD.sub [1, 0, 2, 3] (by decide +kernel) rfl) hS (lv_sub hl [0, 2, 3, 4, 5, 6] rfl)
                              · have tc_37 : ¬ r_36.toInt = (-1) := v_ne c_37
                                refine lv_iconst (v := 0) hx hb dX10_canTake_122 (by decide) ?_
                                have hP9 := hP.sub (ws' := [(ot, .inr (10, [.ref at1, .ref at2, .ref at3, .int lt])), (at1, .inl (cI, 256, .inl ft1)), (at2, .inl (cI, 512, .inl ft2)), (at3, .inl (cI, 512, .inl ft3))]) [1, 0, 2, 3] rfl
                                have hD9 := hD.sub (ws' := [(ot, .inr (10, [.ref at1, .ref at2, .ref at3, .int lt])), (at1, .inl (cI, 256, .inl ft1)), (at2, .inl (cI, 512, .inl ft2)), (at3, .inl (cI, 512, .inl ft3))]) [1, 0, 2, 3] (by decide +kernel) rfl
                                rw [hQQ]
                                exact W.zret (v := 0) (ty := .boolean) hx hb hr (rfl) (fun t ht hW => ⟨⟨0, 0, rfl, rfl, ⟨by rw [ht]; exact hP9, hD9, by decide, Or.inr ⟨rfl, CT_no ex_29 ex_30 (by omega) (by omega) (fun z => bf_some hf36_0 c_37 z.2.2)⟩⟩⟩, hS.F ht⟩) hS.2.2 dX10_canTake_123
                    exact LOOP_77 _ 0 _ _ _ (ms_s _) (by decide) (CTk_0 (by decide)) hP hD hS (lv_sub hl [0, 2, 3, 4, 5, 6] rfl)
                  · have tc_27 : 1 < n.toInt := v_nle c_27
                    refine lv_iconst (v := 0) hx hb dX10_canTake_72 (by decide) ?_
                    have hP9 := hP.sub (ws' := [(ot, .inr (10, [.ref at1, .ref at2, .ref at3, .int lt])), (at1, .inl (cI, 256, .inl ft1)), (at2, .inl (cI, 512, .inl ft2)), (at3, .inl (cI, 512, .inl ft3))]) [0, 1, 2, 3] rfl
                    have hD9 := hD.sub (ws' := [(ot, .inr (10, [.ref at1, .ref at2, .ref at3, .int lt])), (at1, .inl (cI, 256, .inl ft1)), (at2, .inl (cI, 512, .inl ft2)), (at3, .inl (cI, 512, .inl ft3))]) [0, 1, 2, 3] (by decide +kernel) rfl
                    rw [hQQ]
                    exact W.zret (v := 0) (ty := .boolean) hx hb hr (rfl) (fun t ht hW => ⟨⟨0, 0, rfl, rfl, ⟨by rw [ht]; exact hP9, hD9, by decide, Or.inr ⟨rfl, fun h => by have h1 := h.1; unfold isLz at h1; omega⟩⟩⟩, hS.F ht⟩) hS.2.2 dX10_canTake_73
              · have tc_14 : r_13.toInt = 0 := v_eq c_14
                refine lv_iconst (v := 0) hx hb dX10_canTake_60 (by decide) ?_
                have hP9 := hP.sub (ws' := [(ot, .inr (10, [.ref at1, .ref at2, .ref at3, .int lt])), (at1, .inl (cI, 256, .inl ft1)), (at2, .inl (cI, 512, .inl ft2)), (at3, .inl (cI, 512, .inl ft3))]) [0, 1, 2, 3] rfl
                have hD9 := hD.sub (ws' := [(ot, .inr (10, [.ref at1, .ref at2, .ref at3, .int lt])), (at1, .inl (cI, 256, .inl ft1)), (at2, .inl (cI, 512, .inl ft2)), (at3, .inl (cI, 512, .inl ft3))]) [0, 1, 2, 3] (by decide +kernel) rfl
                rw [hQQ]
                exact W.zret (v := 0) (ty := .boolean) hx hb hr (rfl) (fun t ht hW => ⟨⟨0, 0, rfl, rfl, ⟨by rw [ht]; exact hP9, hD9, by decide, Or.inr ⟨rfl, fun h => by have h1 := h.1; unfold isLz at h1; omega⟩⟩⟩, hS.F ht⟩) hS.2.2 dX10_canTake_61

set_option maxHeartbeats 40000000 in
set_option maxRecDepth 100000 in
theorem f_X10_tell (l : Launch) (dC : Nat → ClassId) (dI : Nat → Nat → Nat) (cI cS : ClassId) (sz : Nat) (ot : Nat) (at1 : Nat) (at2 : Nat) (at3 : Nat) (lt : Int32) (ft1 : Nat → Int32) (ft2 : Nat → Int32) (ft3 : Nat → Int32) (v : Int32) (le : Int32) (g_v : 0 ≤ v.toInt ∧ v.toInt ≤ 255) (hT : HT 512 511 hsT ft2 ft3) (ho : (occ ft3 512 : Int) ≤ 511) : Met l yX10_tell wsX10_tell ({ frames := 1, cells := 0, slots := 0, locals := 24 } : Room) (va_Pc [.ref ot, .int v, .int le] (fun U => U.heap.size = sz ∧ va_P (dC, dI) vwCl [(ot, .inr (10, [.ref at1, .ref at2, .ref at3, .int lt])), (at1, .inl (cI, 256, .inl ft1)), (at2, .inl (cI, 512, .inl ft2)), (at3, .inl (cI, 512, .inl ft3))] U.heap ∧ va_K (dC, dI) vwCl [(cI, .int), (cS, .short)] U ∧ va_D (fun _ => True) [(ot, .inr (10, [.ref at1, .ref at2, .ref at3, .int lt])), (at1, .inl (cI, 256, .inl ft1)), (at2, .inl (cI, 512, .inl ft2)), (at3, .inl (cI, 512, .inl ft3))])) (va_Qv (fun (_ : Unit) => True) (fun _ t => ∃ (lt' : Int32) (ft1' : Nat → Int32) (ft2' : Nat → Int32) (ft3' : Nat → Int32), va_P (dC, dI) vwCl [(ot, .inr (10, [.ref at1, .ref at2, .ref at3, .int lt'])), (at1, .inl (cI, 256, .inl ft1')), (at2, .inl (cI, 512, .inl ft2')), (at3, .inl (cI, 512, .inl ft3'))] t.heap ∧ va_D (va_A [(ot, .inr (10, [.ref at1, .ref at2, .ref at3, .int lt])), (at1, .inl (cI, 256, .inl ft1)), (at2, .inl (cI, 512, .inl ft2)), (at3, .inl (cI, 512, .inl ft3))] sz) [(ot, .inr (10, [.ref at1, .ref at2, .ref at3, .int lt'])), (at1, .inl (cI, 256, .inl ft1')), (at2, .inl (cI, 512, .inl ft2')), (at3, .inl (cI, 512, .inl ft3'))] ∧ (F_tl lt lt' v le ft1 ft1' ft2 ft2' ft3 ft3')) (va_A [(ot, .inr (10, [.ref at1, .ref at2, .ref at3, .int lt])), (at1, .inl (cI, 256, .inl ft1)), (at2, .inl (cI, 512, .inl ft2)), (at3, .inl (cI, 512, .inl ft3))] sz)) 0 0 (va_A [(ot, .inr (10, [.ref at1, .ref at2, .ref at3, .int lt])), (at1, .inl (cI, 256, .inl ft1)), (at2, .inl (cI, 512, .inl ft2)), (at3, .inl (cI, 512, .inl ft3))] sz) := by
  refine Met.ofW (cc := cX10_tell) (maxL := 4) (ret := none) (by decide) rfl ?_
  intro p e s m args below meth c s₁ B hml hv
  obtain ⟨rfl, hsz, hP, hK, hD0⟩ := hv
  have hx := B.exec
  have hb := B.bytes
  have hr := B.returns
  have hts := atoms_spec (ws := wsX10_tell) B.pre
  have hown : s.vm.findClass RX10 = some m.cls := findClass_of_methodNamed B.named
  have hlocks := B.notSynchronized
  have in_X10 : ∀ w ∈ wsX100, w ∈ wsX10_tell := fun _ h => List.mem_cons_of_mem _ (List.mem_append_right _ (h))
  subst hsz
  have hD := hD0.self (sz := s.heap.size)
  generalize hAe : va_A [(ot, .inr (10, [.ref at1, .ref at2, .ref at3, .int lt])), (at1, .inl (cI, 256, .inl ft1)), (at2, .inl (cI, 512, .inl ft2)), (at3, .inl (cI, 512, .inl ft3))] s.heap.size = A at hD ⊢
  have hA : ∀ q : Nat, s.heap.size ≤ q → A q := fun q h => by rw [← hAe]; exact Or.inr h
  have hS : va_S A s.heap s.heap [] := va_S.rf
  have hP : va_P (dC, dI) vwCl [(ot, .inr (10, [.ref at1, .ref at2, .ref at3, .int lt])), (at1, .inl (cI, 256, .inl ft1)), (at2, .inl (cI, 512, .inl ft2)), (at3, .inl (cI, 512, .inl ft3))] s.heap := hP
  have hl := lv_entry ([.ref ot, .int v, .int le]) (n := 4) (Nat.le_of_ble_eq_true rfl)
  rw [lg_entry_eq]
  generalize (lg_sl ([.ref ot, .int v, .int le]) ++ List.replicate (4 - (lg_sl ([.ref ot, .int v, .int le])).length) Slot.unset).toArray = ls at hl ⊢
  have hl : lv_has ls 4 [(0, .ref ot), (1, .int v), (2, .int le)] := hl
  obtain ⟨QQ, hQQ⟩ : ∃ QQ : Array Value → State → Outcome → State → Prop, QQ = va_Qv (fun (_ : Unit) => True) (fun _ t => ∃ (lt' : Int32) (ft1' : Nat → Int32) (ft2' : Nat → Int32) (ft3' : Nat → Int32), va_P (dC, dI) vwCl [(ot, .inr (10, [.ref at1, .ref at2, .ref at3, .int lt'])), (at1, .inl (cI, 256, .inl ft1')), (at2, .inl (cI, 512, .inl ft2')), (at3, .inl (cI, 512, .inl ft3'))] t.heap ∧ va_D A [(ot, .inr (10, [.ref at1, .ref at2, .ref at3, .int lt'])), (at1, .inl (cI, 256, .inl ft1')), (at2, .inl (cI, 512, .inl ft2')), (at3, .inl (cI, 512, .inl ft3'))] ∧ (F_tl lt lt' v le ft1 ft1' ft2 ft2' ft3 ft3')) A := ⟨_, rfl⟩
  rw [← hQQ]
  refine lv_aload_n hx hb dX10_tell_0 rfl (lv_at hl 0 rfl) ?_
  refine lv_iload_n hx hb dX10_tell_1 rfl (lv_at hl 2 rfl) ?_
  have hPc := hP.sub (ws' := [(ot, .inr (10, [.ref at1, .ref at2, .ref at3, .int lt])), (at2, .inl (cI, 512, .inl ft2)), (at3, .inl (cI, 512, .inl ft3))]) [0, 2, 3] rfl
  have hDc := hD.sub (ws' := [(ot, .inr (10, [.ref at1, .ref at2, .ref at3, .int lt])), (at2, .inl (cI, 512, .inl ft2)), (at3, .inl (cI, 512, .inl ft3))]) [0, 2, 3] (by decide +kernel) rfl
  have hFc := va_free (wc := [(ot, .inr (10, [.ref at1, .ref at2, .ref at3, .int lt])), (at2, .inl (cI, 512, .inl ft2)), (at3, .inl (cI, 512, .inl ft3))]) hD hS hA [0, 2, 3] rfl
  refine va_calli (va_runV (As := [.int le]) (rest := []) ⟨hx, hb, hml, hown, hts⟩ (f_X10_placeFor l dC dI cI cS s.heap.size ot at1 at2 at3 lt ft2 ft3 le ) (cwV 1 hts gX10_tell_X10_placeFor rfl rfl rfl (by decide +kernel) ⟨Nat.le_of_ble_eq_true rfl, Nat.le_of_ble_eq_true rfl⟩) ⟨fun a U g mk q => by obtain ⟨q0, q1, qP, qK, qD⟩ := q; exact ⟨q0, q1, qP, va_K.moved (u := U) (U := U.calling g mk a) (Vm.Alike.refl U.vm) qK, qD⟩, va_recv hK hPc (ci := 10) (q0 := 0) rfl rfl, fun U hU hW => ⟨rfl, by rw [hU], by rw [hU]; exact hPc, va_K.moved hW.alike hK, hDc.weaken (fun _ _ _ _ => trivial)⟩⟩ rfl rfl hl.1 rfl (lv_room (Nat.le_of_ble_eq_true rfl)) dX10_tell_2 ⟨Nat.le_of_ble_eq_true rfl, Nat.le_of_ble_eq_true rfl⟩) hS (fun q _ h => hFc q h) hFc (fun r_1 u t H1 locs ht hvm hw hB hz1 hk1 hSn => ?_)
  subst hw
  obtain ⟨hP1, hD1, hf1_0, hf1_1⟩ := hB
  rw [ht] at hP1
  obtain ⟨hPn, hDn⟩ := va_join (wr := [(at1, .inl (cI, 256, .inl ft1))]) (w1 := [(ot, .inr (10, [.ref at1, .ref at2, .ref at3, .int lt])), (at2, .inl (cI, 512, .inl ft2)), (at3, .inl (cI, 512, .inl ft3))]) hP hD [0, 2, 3] [1] rfl rfl (by decide +kernel) (by decide +kernel) hk1 hFc hP1 hD1
  clear hP hD hS hPc hDc hFc hk1 hz1 hvm ht hP1 hD1
  generalize H1 = H at hPn hSn ⊢
  have hP : va_P (dC, dI) vwCl [(at1, .inl (cI, 256, .inl ft1)), (ot, .inr (10, [.ref at1, .ref at2, .ref at3, .int lt])), (at2, .inl (cI, 512, .inl ft2)), (at3, .inl (cI, 512, .inl ft3))] H := hPn
  have hD : va_D A [(at1, .inl (cI, 256, .inl ft1)), (ot, .inr (10, [.ref at1, .ref at2, .ref at3, .int lt])), (at2, .inl (cI, 512, .inl ft2)), (at3, .inl (cI, 512, .inl ft3))] := hDn
  have hS := hSn
  clear hPn hDn hSn
  obtain ⟨hpz1, hpf1⟩ := pfT_found hf1_1 ho
  refine lv_istore_n (lv' := [(3, .int r_1), (0, .ref ot), (1, .int v), (2, .int le)]) hx hb dX10_tell_5 rfl hl (by decide) rfl (fun ls hl => ?_)
  refine lv_iload_n hx hb dX10_tell_6 rfl (lv_at hl 0 rfl) ?_
  refine lv_iconst (v := (-1)) hx hb dX10_tell_7 (by decide) ?_
  refine lv_icmp_eq (tgt := 22) hx hb dX10_tell_8 (by decide) (fun c_2 => by exfalso; have tc_2 : r_1.toInt = (-1) := v_eq c_2; omega) (fun c_2 => ?_)
  have tc_2 : ¬ r_1.toInt = (-1) := v_ne c_2
  refine lv_iload_n hx hb dX10_tell_11 rfl (lv_at hl 2 rfl) ?_
  refine lv_if_lt (tgt := 22) hx hb dX10_tell_12 (by decide) (fun c_3 => by exfalso; have tc_3 : v.toInt < 0 := v_lt c_3; omega) (fun c_3 => ?_)
  have tc_3 : 0 ≤ v.toInt := v_nlt c_3
  refine lv_iload_n hx hb dX10_tell_15 rfl (lv_at hl 2 rfl) ?_
  refine lv_sipush (v := 256) hx hb dX10_tell_16 (by decide) ?_
  refine lv_icmp_lt (tgt := 23) hx hb dX10_tell_19 (by decide) (fun c_4 => ?_) (fun c_4 => by exfalso; have tc_4 : 256 ≤ v.toInt := v_nlt c_4; omega)
  have tc_4 : v.toInt < 256 := v_lt c_4
  refine lv_aload_n hx hb dX10_tell_23 rfl (lv_at hl 1 rfl) ?_
  refine va_get (D := (dC, dI)) (ci := 10) (v := .ref at1) (C := RX10) (T := TX10) (N := 4) hx hb hts in_X10 hown hK hP 1 rfl rfl 0 (by decide) (hts (.fieldLink RX10 9 "TextMender$ToldCode" "letterOf" "[I") (List.mem_of_getElem? (i := 1) rfl)) (fun _ h9 => h9) rfl dX10_tell_24 ?_
  refine lv_iload_n hx hb dX10_tell_27 rfl (lv_at hl 2 rfl) ?_
  refine lv_iload_n hx hb dX10_tell_28 rfl (lv_at hl 3 rfl) ?_
  refine va_iast hx hb hK hP hD hS 0 0 rfl rfl (v_in (by omega)) dX10_tell_29 (fun H locs hPn hDn hSn => ?_)
  clear hP hD hS
  have hP : va_P (dC, dI) vwCl [(at1, .inl (cI, 256, .inl (upd ft1 (v : Int32).toNatClampNeg le))), (ot, .inr (10, [.ref at1, .ref at2, .ref at3, .int lt])), (at2, .inl (cI, 512, .inl ft2)), (at3, .inl (cI, 512, .inl ft3))] H := hPn
  have hD : va_D A [(at1, .inl (cI, 256, .inl (upd ft1 (v : Int32).toNatClampNeg le))), (ot, .inr (10, [.ref at1, .ref at2, .ref at3, .int lt])), (at2, .inl (cI, 512, .inl ft2)), (at3, .inl (cI, 512, .inl ft3))] := hDn
  have hS := hSn
  clear hPn hDn hSn
  obtain ⟨f_5, ef_5⟩ : ∃ g : Nat → Int32, g = upd ft1 (v : Int32).toNatClampNeg le := ⟨_, rfl⟩
  rw [← ef_5] at hP hD
  refine lv_aload_n hx hb dX10_tell_30 rfl (lv_at hl 1 rfl) ?_
  refine va_get (D := (dC, dI)) (ci := 10) (v := .ref at2) (C := RX10) (T := TX10) (N := 4) hx hb hts in_X10 hown hK hP 1 rfl rfl 1 (by decide) (hts (.fieldLink RX10 15 "TextMender$ToldCode" "placeLetter" "[I") (List.mem_of_getElem? (i := 2) rfl)) (fun _ h9 => h9) rfl dX10_tell_31 ?_
  refine lv_iload_n hx hb dX10_tell_34 rfl (lv_at hl 0 rfl) ?_
  refine lv_iload_n hx hb dX10_tell_35 rfl (lv_at hl 3 rfl) ?_
  refine va_iast hx hb hK hP hD hS 2 0 rfl rfl (v_in (by omega)) dX10_tell_36 (fun H locs hPn hDn hSn => ?_)
  clear hP hD hS
  have hP : va_P (dC, dI) vwCl [(at1, .inl (cI, 256, .inl f_5)), (ot, .inr (10, [.ref at1, .ref at2, .ref at3, .int lt])), (at2, .inl (cI, 512, .inl (upd ft2 (r_1 : Int32).toNatClampNeg le))), (at3, .inl (cI, 512, .inl ft3))] H := hPn
  have hD : va_D A [(at1, .inl (cI, 256, .inl f_5)), (ot, .inr (10, [.ref at1, .ref at2, .ref at3, .int lt])), (at2, .inl (cI, 512, .inl (upd ft2 (r_1 : Int32).toNatClampNeg le))), (at3, .inl (cI, 512, .inl ft3))] := hDn
  have hS := hSn
  clear hPn hDn hSn
  obtain ⟨f_6, ef_6⟩ : ∃ g : Nat → Int32, g = upd ft2 (r_1 : Int32).toNatClampNeg le := ⟨_, rfl⟩
  rw [← ef_6] at hP hD
  refine lv_aload_n hx hb dX10_tell_37 rfl (lv_at hl 1 rfl) ?_
  refine va_get (D := (dC, dI)) (ci := 10) (v := .ref at3) (C := RX10) (T := TX10) (N := 4) hx hb hts in_X10 hown hK hP 1 rfl rfl 2 (by decide) (hts (.fieldLink RX10 18 "TextMender$ToldCode" "placeByte" "[I") (List.mem_of_getElem? (i := 3) rfl)) (fun _ h9 => h9) rfl dX10_tell_38 ?_
  refine lv_iload_n hx hb dX10_tell_41 rfl (lv_at hl 0 rfl) ?_
  refine lv_iload_n hx hb dX10_tell_42 rfl (lv_at hl 2 rfl) ?_
  refine va_iast hx hb hK hP hD hS 3 0 rfl rfl (v_in (by omega)) dX10_tell_43 (fun H locs hPn hDn hSn => ?_)
  clear hP hD hS
  have hP : va_P (dC, dI) vwCl [(at1, .inl (cI, 256, .inl f_5)), (ot, .inr (10, [.ref at1, .ref at2, .ref at3, .int lt])), (at2, .inl (cI, 512, .inl f_6)), (at3, .inl (cI, 512, .inl (upd ft3 (r_1 : Int32).toNatClampNeg v)))] H := hPn
  have hD : va_D A [(at1, .inl (cI, 256, .inl f_5)), (ot, .inr (10, [.ref at1, .ref at2, .ref at3, .int lt])), (at2, .inl (cI, 512, .inl f_6)), (at3, .inl (cI, 512, .inl (upd ft3 (r_1 : Int32).toNatClampNeg v)))] := hDn
  have hS := hSn
  clear hPn hDn hSn
  obtain ⟨f_7, ef_7⟩ : ∃ g : Nat → Int32, g = upd ft3 (r_1 : Int32).toNatClampNeg v := ⟨_, rfl⟩
  rw [← ef_7] at hP hD
  refine lv_aload_n hx hb dX10_tell_44 rfl (lv_at hl 1 rfl) ?_
  refine lv_dup hx hb dX10_tell_45 rfl ?_
  refine va_get (D := (dC, dI)) (ci := 10) (v := .int lt) (C := RX10) (T := TX10) (N := 4) hx hb hts in_X10 hown hK hP 1 rfl rfl 3 (by decide) (hts (.fieldLink RX10 27 "TextMender$ToldCode" "length" "I") (List.mem_of_getElem? (i := 4) rfl)) (fun _ h9 => h9) rfl dX10_tell_46 ?_
  refine lv_iconst (v := 1) hx hb dX10_tell_49 (by decide) ?_
  refine lv_iadd hx hb dX10_tell_50 ?_
  refine lv_topi (fun x_8 ex_8 => ?_)
  have rv8_0 := v_rng lt
  refine va_put (D := (dC, dI)) (ci := 10) (v := .int x_8) (ty := .int) (C := RX10) (T := TX10) (N := 4) hx hb hts in_X10 tyX10 tyX10_ok nmX10 hown hK hP hD hS 1 rfl rfl 3 (by decide) (hts (.fieldLink RX10 27 "TextMender$ToldCode" "length" "I") (List.mem_of_getElem? (i := 4) rfl)) (fun _ h9 => h9) rfl (by decide +kernel) rfl rfl (Nat.le_of_ble_eq_true rfl) dX10_tell_51 (fun H locs hPn hDn hSn => ?_)
  clear hP hD hS
  have hP : va_P (dC, dI) vwCl [(at1, .inl (cI, 256, .inl f_5)), (ot, .inr (10, [.ref at1, .ref at2, .ref at3, .int x_8])), (at2, .inl (cI, 512, .inl f_6)), (at3, .inl (cI, 512, .inl f_7))] H := hPn
  have hD : va_D A [(at1, .inl (cI, 256, .inl f_5)), (ot, .inr (10, [.ref at1, .ref at2, .ref at3, .int x_8])), (at2, .inl (cI, 512, .inl f_6)), (at3, .inl (cI, 512, .inl f_7))] := hDn
  have hS := hSn
  clear hPn hDn hSn
  have hP9 := hP.sub (ws' := [(ot, .inr (10, [.ref at1, .ref at2, .ref at3, .int x_8])), (at1, .inl (cI, 256, .inl f_5)), (at2, .inl (cI, 512, .inl f_6)), (at3, .inl (cI, 512, .inl f_7))]) [1, 0, 2, 3] rfl
  have hD9 := hD.sub (ws' := [(ot, .inr (10, [.ref at1, .ref at2, .ref at3, .int x_8])), (at1, .inl (cI, 256, .inl f_5)), (at2, .inl (cI, 512, .inl f_6)), (at3, .inl (cI, 512, .inl f_7))]) [1, 0, 2, 3] (by decide +kernel) rfl
  rw [hQQ]
  exact W.vret hx hb hr (fun t ht hW => ⟨⟨(), rfl, trivial, ⟨x_8, f_5, f_6, f_7, by rw [ht]; exact hP9, hD9, ⟨r_1, by omega, by omega, hpf1, ex_8, ef_5, ef_6, ef_7⟩⟩⟩, hS.F ht⟩) hS.2.2 dX10_tell_54

set_option maxHeartbeats 40000000 in
set_option maxRecDepth 100000 in
theorem f_span_4 (l : Launch) (dC : Nat → ClassId) (dI : Nat → Nat → Nat) (cI cS : ClassId) (sz : Nat) (oX : Nat) (nT : Nat) (nL : Nat) (nM : Nat) (oC : Nat) (oP : Nat) (oH : Nat) (oK : Nat) (oG : Nat) (oR : Nat) (oQ : Nat) (oW : Nat) (o4 : Nat) (o5 : Nat) (a41 : Nat) (a42 : Nat) (a43 : Nat) (nw : Nat) (w1 : Nat) (w2 : Nat) (w3 : Nat) (o7 : Nat) (o8 : Nat) (o9 : Nat) (w4 : Nat) (w5 : Nat) (w6 : Nat) (w7 : Nat) (fa : Int32) (l4 : Int32) (f41 : Nat → Int32) (f42 : Nat → Int32) (f43 : Nat → Int32) (ke : Int32) (tl : Int32) (fsh : Int32) (wi : Int32) (ri : Int32) (fm : Int32) (lm : Int32) (cd : Int32) (fr : Int32) (n : Int32) (le : Int32) (sp : Int32) (g_ke : 0 ≤ ke.toInt ∧ ke.toInt ≤ 200) (g_fsh : 0 ≤ fsh.toInt ∧ fsh.toInt ≤ 1) (g_fm : -1 ≤ fm.toInt ∧ fm.toInt ≤ 800) (g_lm : -1 ≤ lm.toInt ∧ lm.toInt ≤ 800) (hcd : cd.toInt = 4) (hT : HT 512 511 hsT f42 f43) (hoo : occ f43 512 ≤ occ f41 256) : Met l yX11_span wsX11_span ({ frames := 3, cells := 0, slots := 0, locals := 73 } : Room) (va_Pc [.ref oX, .int cd, .int fr, .int n, .int le, .int sp] (fun U => U.heap.size = sz ∧ va_P (dC, dI) vwCl [(oX, .inr (11, [.ref nT, .ref nL, .ref nM, .ref oC, .ref oP, .ref oH, .ref oK, .ref oG, .ref oR, .ref oQ, .ref oW, .int fa])), (oC, .inr (2, [.ref o4, .ref o5])), (o4, .inr (10, [.ref a41, .ref a42, .ref a43, .int l4])), (a41, .inl (cI, 256, .inl f41)), (a42, .inl (cI, 512, .inl f42)), (a43, .inl (cI, 512, .inl f43)), (oW, .inr (1, [.ref oC, .ref oK, .ref nw, .ref w1, .ref w2, .ref w3, .ref o7, .ref o8, .ref o9, .ref w4, .ref w5, .ref w6, .ref w7, .int ke, .int tl, .int fsh, .int wi, .int ri, .int fm, .int lm]))] U.heap ∧ va_K (dC, dI) vwCl [(cI, .int), (cS, .short)] U ∧ va_D (fun _ => True) [(oX, .inr (11, [.ref nT, .ref nL, .ref nM, .ref oC, .ref oP, .ref oH, .ref oK, .ref oG, .ref oR, .ref oQ, .ref oW, .int fa])), (oC, .inr (2, [.ref o4, .ref o5])), (o4, .inr (10, [.ref a41, .ref a42, .ref a43, .int l4])), (a41, .inl (cI, 256, .inl f41)), (a42, .inl (cI, 512, .inl f42)), (a43, .inl (cI, 512, .inl f43)), (oW, .inr (1, [.ref oC, .ref oK, .ref nw, .ref w1, .ref w2, .ref w3, .ref o7, .ref o8, .ref o9, .ref w4, .ref w5, .ref w6, .ref w7, .int ke, .int tl, .int fsh, .int wi, .int ri, .int fm, .int lm]))] ∧ va_Nw (.methodLinkNest RX10 35 yX11_isLetter "TextMender") U)) (va_Qi (fun (r : Int32) (u : Int32) => r = u) (fun (r : Int32) t => ∃ (fa' : Int32) (fsh' : Int32) (l4' : Int32) (f41' : Nat → Int32) (f42' : Nat → Int32) (f43' : Nat → Int32), va_P (dC, dI) vwCl [(oX, .inr (11, [.ref nT, .ref nL, .ref nM, .ref oC, .ref oP, .ref oH, .ref oK, .ref oG, .ref oR, .ref oQ, .ref oW, .int fa'])), (oC, .inr (2, [.ref o4, .ref o5])), (o4, .inr (10, [.ref a41, .ref a42, .ref a43, .int l4'])), (a41, .inl (cI, 256, .inl f41')), (a42, .inl (cI, 512, .inl f42')), (a43, .inl (cI, 512, .inl f43')), (oW, .inr (1, [.ref oC, .ref oK, .ref nw, .ref w1, .ref w2, .ref w3, .ref o7, .ref o8, .ref o9, .ref w4, .ref w5, .ref w6, .ref w7, .int ke, .int tl, .int fsh', .int wi, .int ri, .int fm, .int lm]))] t.heap ∧ va_D (va_A [(oX, .inr (11, [.ref nT, .ref nL, .ref nM, .ref oC, .ref oP, .ref oH, .ref oK, .ref oG, .ref oR, .ref oQ, .ref oW, .int fa])), (oC, .inr (2, [.ref o4, .ref o5])), (o4, .inr (10, [.ref a41, .ref a42, .ref a43, .int l4])), (a41, .inl (cI, 256, .inl f41)), (a42, .inl (cI, 512, .inl f42)), (a43, .inl (cI, 512, .inl f43)), (oW, .inr (1, [.ref oC, .ref oK, .ref nw, .ref w1, .ref w2, .ref w3, .ref o7, .ref o8, .ref o9, .ref w4, .ref w5, .ref w6, .ref w7, .int ke, .int tl, .int fsh, .int wi, .int ri, .int fm, .int lm]))] sz) [(oX, .inr (11, [.ref nT, .ref nL, .ref nM, .ref oC, .ref oP, .ref oH, .ref oK, .ref oG, .ref oR, .ref oQ, .ref oW, .int fa'])), (oC, .inr (2, [.ref o4, .ref o5])), (o4, .inr (10, [.ref a41, .ref a42, .ref a43, .int l4'])), (a41, .inl (cI, 256, .inl f41')), (a42, .inl (cI, 512, .inl f42')), (a43, .inl (cI, 512, .inl f43')), (oW, .inr (1, [.ref oC, .ref oK, .ref nw, .ref w1, .ref w2, .ref w3, .ref o7, .ref o8, .ref o9, .ref w4, .ref w5, .ref w6, .ref w7, .int ke, .int tl, .int fsh', .int wi, .int ri, .int fm, .int lm]))] ∧ (0 ≤ fsh'.toInt ∧ fsh'.toInt ≤ 1) ∧ (F_spanC r fr n le sp l4 l4' f41 f41' f42 f42' f43 f43') ∧ (F_fsP (CT fr n le sp (fun k => f41 k = -1) (nTd f42 f43)) fsh fsh')) (va_A [(oX, .inr (11, [.ref nT, .ref nL, .ref nM, .ref oC, .ref oP, .ref oH, .ref oK, .ref oG, .ref oR, .ref oQ, .ref oW, .int fa])), (oC, .inr (2, [.ref o4, .ref o5])), (o4, .inr (10, [.ref a41, .ref a42, .ref a43, .int l4])), (a41, .inl (cI, 256, .inl f41)), (a42, .inl (cI, 512, .inl f42)), (a43, .inl (cI, 512, .inl f43)), (oW, .inr (1, [.ref oC, .ref oK, .ref nw, .ref w1, .ref w2, .ref w3, .ref o7, .ref o8, .ref o9, .ref w4, .ref w5, .ref w6, .ref w7, .int ke, .int tl, .int fsh, .int wi, .int ri, .int fm, .int lm]))] sz)) 0 0 (va_A [(oX, .inr (11, [.ref nT, .ref nL, .ref nM, .ref oC, .ref oP, .ref oH, .ref oK, .ref oG, .ref oR, .ref oQ, .ref oW, .int fa])), (oC, .inr (2, [.ref o4, .ref o5])), (o4, .inr (10, [.ref a41, .ref a42, .ref a43, .int l4])), (a41, .inl (cI, 256, .inl f41)), (a42, .inl (cI, 512, .inl f42)), (a43, .inl (cI, 512, .inl f43)), (oW, .inr (1, [.ref oC, .ref oK, .ref nw, .ref w1, .ref w2, .ref w3, .ref o7, .ref o8, .ref o9, .ref w4, .ref w5, .ref w6, .ref w7, .int ke, .int tl, .int fsh, .int wi, .int ri, .int fm, .int lm]))] sz) := by
  refine Met.ofW (cc := cX11_span) (maxL := 8) (ret := (some .int)) (by decide) rfl ?_
  intro p e s m args below meth c s₁ B hml hv
  obtain ⟨rfl, hsz, hP, hK, hD0, hN35⟩ := hv
  have hx := B.exec
  have hb := B.bytes
  have hr := B.returns
  have hts := atoms_spec (ws := wsX11_span) B.pre
  have hown : s.vm.findClass RX11 = some m.cls := findClass_of_methodNamed B.named
  have hlocks := B.notSynchronized
  have in_X11 : ∀ w ∈ wsX110, w ∈ wsX11_span := fun _ h => List.mem_cons_of_mem _ (List.mem_append_left _ (List.mem_append_left _ (List.mem_append_left _ (List.mem_append_right _ (h)))))
  subst hsz
  have hD := hD0.self (sz := s.heap.size)
  generalize hAe : va_A [(oX, .inr (11, [.ref nT, .ref nL, .ref nM, .ref oC, .ref oP, .ref oH, .ref oK, .ref oG, .ref oR, .ref oQ, .ref oW, .int fa])), (oC, .inr (2, [.ref o4, .ref o5])), (o4, .inr (10, [.ref a41, .ref a42, .ref a43, .int l4])), (a41, .inl (cI, 256, .inl f41)), (a42, .inl (cI, 512, .inl f42)), (a43, .inl (cI, 512, .inl f43)), (oW, .inr (1, [.ref oC, .ref oK, .ref nw, .ref w1, .ref w2, .ref w3, .ref o7, .ref o8, .ref o9, .ref w4, .ref w5, .ref w6, .ref w7, .int ke, .int tl, .int fsh, .int wi, .int ri, .int fm, .int lm]))] s.heap.size = A at hD ⊢
  have hA : ∀ q : Nat, s.heap.size ≤ q → A q := fun q h => by rw [← hAe]; exact Or.inr h
  have hS : va_S A s.heap s.heap [] := va_S.rf
  have hP : va_P (dC, dI) vwCl [(oX, .inr (11, [.ref nT, .ref nL, .ref nM, .ref oC, .ref oP, .ref oH, .ref oK, .ref oG, .ref oR, .ref oQ, .ref oW, .int fa])), (oC, .inr (2, [.ref o4, .ref o5])), (o4, .inr (10, [.ref a41, .ref a42, .ref a43, .int l4])), (a41, .inl (cI, 256, .inl f41)), (a42, .inl (cI, 512, .inl f42)), (a43, .inl (cI, 512, .inl f43)), (oW, .inr (1, [.ref oC, .ref oK, .ref nw, .ref w1, .ref w2, .ref w3, .ref o7, .ref o8, .ref o9, .ref w4, .ref w5, .ref w6, .ref w7, .int ke, .int tl, .int fsh, .int wi, .int ri, .int fm, .int lm]))] s.heap := hP
  have hl := lv_entry ([.ref oX, .int cd, .int fr, .int n, .int le, .int sp]) (n := 8) (Nat.le_of_ble_eq_true rfl)
  rw [lg_entry_eq]
  generalize (lg_sl ([.ref oX, .int cd, .int fr, .int n, .int le, .int sp]) ++ List.replicate (8 - (lg_sl ([.ref oX, .int cd, .int fr, .int n, .int le, .int sp])).length) Slot.unset).toArray = ls at hl ⊢
  have hl : lv_has ls 8 [(0, .ref oX), (1, .int cd), (2, .int fr), (3, .int n), (4, .int le), (5, .int sp)] := hl
  obtain ⟨QQ, hQQ⟩ : ∃ QQ : Array Value → State → Outcome → State → Prop, QQ = va_Qi (fun (r : Int32) (u : Int32) => r = u) (fun (r : Int32) t => ∃ (fa' : Int32) (fsh' : Int32) (l4' : Int32) (f41' : Nat → Int32) (f42' : Nat → Int32) (f43' : Nat → Int32), va_P (dC, dI) vwCl [(oX, .inr (11, [.ref nT, .ref nL, .ref nM, .ref oC, .ref oP, .ref oH, .ref oK, .ref oG, .ref oR, .ref oQ, .ref oW, .int fa'])), (oC, .inr (2, [.ref o4, .ref o5])), (o4, .inr (10, [.ref a41, .ref a42, .ref a43, .int l4'])), (a41, .inl (cI, 256, .inl f41')), (a42, .inl (cI, 512, .inl f42')), (a43, .inl (cI, 512, .inl f43')), (oW, .inr (1, [.ref oC, .ref oK, .ref nw, .ref w1, .ref w2, .ref w3, .ref o7, .ref o8, .ref o9, .ref w4, .ref w5, .ref w6, .ref w7, .int ke, .int tl, .int fsh', .int wi, .int ri, .int fm, .int lm]))] t.heap ∧ va_D A [(oX, .inr (11, [.ref nT, .ref nL, .ref nM, .ref oC, .ref oP, .ref oH, .ref oK, .ref oG, .ref oR, .ref oQ, .ref oW, .int fa'])), (oC, .inr (2, [.ref o4, .ref o5])), (o4, .inr (10, [.ref a41, .ref a42, .ref a43, .int l4'])), (a41, .inl (cI, 256, .inl f41')), (a42, .inl (cI, 512, .inl f42')), (a43, .inl (cI, 512, .inl f43')), (oW, .inr (1, [.ref oC, .ref oK, .ref nw, .ref w1, .ref w2, .ref w3, .ref o7, .ref o8, .ref o9, .ref w4, .ref w5, .ref w6, .ref w7, .int ke, .int tl, .int fsh', .int wi, .int ri, .int fm, .int lm]))] ∧ (0 ≤ fsh'.toInt ∧ fsh'.toInt ≤ 1) ∧ (F_spanC r fr n le sp l4 l4' f41 f41' f42 f42' f43 f43') ∧ (F_fsP (CT fr n le sp (fun k => f41 k = -1) (nTd f42 f43)) fsh fsh')) A := ⟨_, rfl⟩
  rw [← hQQ]
  refine lv_aload_n hx hb dX11_span_0 rfl (lv_at hl 0 rfl) ?_
  refine lv_iconst (v := (-1)) hx hb dX11_span_1 (by decide) ?_
  refine va_put (D := (dC, dI)) (ci := 11) (v := .int (-1)) (ty := .int) (C := RX11) (T := TX11) (N := 12) hx hb hts in_X11 tyX11 tyX11_ok nmX11 hown hK hP hD hS 0 rfl rfl 11 (by decide) (hts (.fieldLink RX11 90 "TextMender" "fault" "I") (List.mem_of_getElem? (i := 1) rfl)) (fun _ h9 => h9) rfl (by decide +kernel) rfl rfl (Nat.le_of_ble_eq_true rfl) dX11_span_2 (fun H locs hPn hDn hSn => ?_)
  clear hP hD hS
  have hP : va_P (dC, dI) vwCl [(oX, .inr (11, [.ref nT, .ref nL, .ref nM, .ref oC, .ref oP, .ref oH, .ref oK, .ref oG, .ref oR, .ref oQ, .ref oW, .int (-1)])), (oC, .inr (2, [.ref o4, .ref o5])), (o4, .inr (10, [.ref a41, .ref a42, .ref a43, .int l4])), (a41, .inl (cI, 256, .inl f41)), (a42, .inl (cI, 512, .inl f42)), (a43, .inl (cI, 512, .inl f43)), (oW, .inr (1, [.ref oC, .ref oK, .ref nw, .ref w1, .ref w2, .ref w3, .ref o7, .ref o8, .ref o9, .ref w4, .ref w5, .ref w6, .ref w7, .int ke, .int tl, .int fsh, .int wi, .int ri, .int fm, .int lm]))] H := hPn
  have hD : va_D A [(oX, .inr (11, [.ref nT, .ref nL, .ref nM, .ref oC, .ref oP, .ref oH, .ref oK, .ref oG, .ref oR, .ref oQ, .ref oW, .int (-1)])), (oC, .inr (2, [.ref o4, .ref o5])), (o4, .inr (10, [.ref a41, .ref a42, .ref a43, .int l4])), (a41, .inl (cI, 256, .inl f41)), (a42, .inl (cI, 512, .inl f42)), (a43, .inl (cI, 512, .inl f43)), (oW, .inr (1, [.ref oC, .ref oK, .ref nw, .ref w1, .ref w2, .ref w3, .ref o7, .ref o8, .ref o9, .ref w4, .ref w5, .ref w6, .ref w7, .int ke, .int tl, .int fsh, .int wi, .int ri, .int fm, .int lm]))] := hDn
  have hS := hSn
  clear hPn hDn hSn
  refine lv_aload_n hx hb dX11_span_5 rfl (lv_at hl 0 rfl) ?_
  refine va_get (D := (dC, dI)) (ci := 11) (v := .ref oC) (C := RX11) (T := TX11) (N := 12) hx hb hts in_X11 hown hK hP 0 rfl rfl 3 (by decide) (hts (.fieldLink RX11 40 "TextMender" "codes" "LTextMender$Codes;") (List.mem_of_getElem? (i := 2) rfl)) (fun _ h9 => h9) rfl dX11_span_6 ?_
  refine lv_iload_n hx hb dX11_span_9 rfl (lv_at hl 1 rfl) ?_
  have hPc := hP.sub (ws' := [(oC, .inr (2, [.ref o4, .ref o5]))]) [1] rfl
  have hDc := hD.sub (ws' := [(oC, .inr (2, [.ref o4, .ref o5]))]) [1] (by decide +kernel) rfl
  have hFc := va_free (wc := [(oC, .inr (2, [.ref o4, .ref o5]))]) hD hS hA [1] rfl
  refine va_callr (va_runV (As := [.int cd]) (rest := []) ⟨hx, hb, hml, hown, hts⟩ (m_X2_toldCode_4 l dC dI cI cS H.size oC o4 o5 cd (by omega)) (cwV 1 hts gX11_span_X2_toldCode rfl rfl rfl (by decide +kernel) ⟨Nat.le_of_ble_eq_true rfl, Nat.le_of_ble_eq_true rfl⟩) ⟨fun a U g mk q => by obtain ⟨q0, q1, qP, qK, qD⟩ := q; exact ⟨q0, q1, qP, va_K.moved (u := U) (U := U.calling g mk a) (Vm.Alike.refl U.vm) qK, qD⟩, va_recv hK hPc (ci := 2) (q0 := 0) rfl rfl, fun U hU hW => ⟨rfl, by rw [hU], by rw [hU]; exact hPc, va_K.moved hW.alike hK, hDc.weaken (fun _ _ _ _ => trivial)⟩⟩ rfl rfl hl.1 rfl (lv_room (Nat.le_of_ble_eq_true rfl)) dX11_span_10 ⟨Nat.le_of_ble_eq_true rfl, Nat.le_of_ble_eq_true rfl⟩) hS (fun q _ h => hFc q h) hFc (fun u r_1 t H1 locs ht hvm hw hB hz1 hk1 hSn => ?_)
  obtain ⟨hra, hP1, hD1⟩ := hB
  rw [hra]
  rw [ht] at hP1
  obtain ⟨hPn, hDn⟩ := va_join (wr := [(oX, .inr (11, [.ref nT, .ref nL, .ref nM, .ref oC, .ref oP, .ref oH, .ref oK, .ref oG, .ref oR, .ref oQ, .ref oW, .int (-1)])), (o4, .inr (10, [.ref a41, .ref a42, .ref a43, .int l4])), (a41, .inl (cI, 256, .inl f41)), (a42, .inl (cI, 512, .inl f42)), (a43, .inl (cI, 512, .inl f43)), (oW, .inr (1, [.ref oC, .ref oK, .ref nw, .ref w1, .ref w2, .ref w3, .ref o7, .ref o8, .ref o9, .ref w4, .ref w5, .ref w6, .ref w7, .int ke, .int tl, .int fsh, .int wi, .int ri, .int fm, .int lm]))]) (w1 := [(oC, .inr (2, [.ref o4, .ref o5]))]) hP hD [1] [0, 2, 3, 4, 5, 6] rfl rfl (by decide +kernel) (by decide +kernel) hk1 hFc hP1 hD1
  clear hP hD hS hPc hDc hFc hk1 hz1 hvm ht hP1 hD1
  generalize H1 = H at hPn hSn ⊢
  have hP : va_P (dC, dI) vwCl [(oX, .inr (11, [.ref nT, .ref nL, .ref nM, .ref oC, .ref oP, .ref oH, .ref oK, .ref oG, .ref oR, .ref oQ, .ref oW, .int (-1)])), (o4, .inr (10, [.ref a41, .ref a42, .ref a43, .int l4])), (a41, .inl (cI, 256, .inl f41)), (a42, .inl (cI, 512, .inl f42)), (a43, .inl (cI, 512, .inl f43)), (oW, .inr (1, [.ref oC, .ref oK, .ref nw, .ref w1, .ref w2, .ref w3, .ref o7, .ref o8, .ref o9, .ref w4, .ref w5, .ref w6, .ref w7, .int ke, .int tl, .int fsh, .int wi, .int ri, .int fm, .int lm])), (oC, .inr (2, [.ref o4, .ref o5]))] H := hPn
  have hD : va_D A [(oX, .inr (11, [.ref nT, .ref nL, .ref nM, .ref oC, .ref oP, .ref oH, .ref oK, .ref oG, .ref oR, .ref oQ, .ref oW, .int (-1)])), (o4, .inr (10, [.ref a41, .ref a42, .ref a43, .int l4])), (a41, .inl (cI, 256, .inl f41)), (a42, .inl (cI, 512, .inl f42)), (a43, .inl (cI, 512, .inl f43)), (oW, .inr (1, [.ref oC, .ref oK, .ref nw, .ref w1, .ref w2, .ref w3, .ref o7, .ref o8, .ref o9, .ref w4, .ref w5, .ref w6, .ref w7, .int ke, .int tl, .int fsh, .int wi, .int ri, .int fm, .int lm])), (oC, .inr (2, [.ref o4, .ref o5]))] := hDn
  have hS := hSn
  clear hPn hDn hSn
  refine lv_astore (lv' := [(6, .ref o4), (0, .ref oX), (1, .int cd), (2, .int fr), (3, .int n), (4, .int le), (5, .int sp)]) hx hb dX11_span_13 hl (by decide) rfl (fun ls hl => ?_)
  refine lv_aload hx hb dX11_span_15 (lv_at hl 0 rfl) ?_
  refine lv_ifnull hx hb dX11_span_17 ?_
  refine lv_aload hx hb dX11_span_20 (lv_at hl 0 rfl) ?_
  refine lv_iload_n hx hb dX11_span_22 rfl (lv_at hl 3 rfl) ?_
  refine lv_iload_n hx hb dX11_span_23 rfl (lv_at hl 4 rfl) ?_
  refine lv_iload hx hb dX11_span_24 (lv_at hl 5 rfl) ?_
  refine lv_iload hx hb dX11_span_26 (lv_at hl 6 rfl) ?_
  have hPc := hP.sub (ws' := [(o4, .inr (10, [.ref a41, .ref a42, .ref a43, .int l4])), (a41, .inl (cI, 256, .inl f41)), (a42, .inl (cI, 512, .inl f42)), (a43, .inl (cI, 512, .inl f43))]) [1, 2, 3, 4] rfl
  have hDc := hD.sub (ws' := [(o4, .inr (10, [.ref a41, .ref a42, .ref a43, .int l4])), (a41, .inl (cI, 256, .inl f41)), (a42, .inl (cI, 512, .inl f42)), (a43, .inl (cI, 512, .inl f43))]) [1, 2, 3, 4] (by decide +kernel) rfl
  have hFc := va_free (wc := [(o4, .inr (10, [.ref a41, .ref a42, .ref a43, .int l4])), (a41, .inl (cI, 256, .inl f41)), (a42, .inl (cI, 512, .inl f42)), (a43, .inl (cI, 512, .inl f43))]) hD hS hA [1, 2, 3, 4] rfl
  refine va_calli (va_runV (As := [.int fr, .int n, .int le, .int sp]) (rest := []) ⟨hx, hb, hml, hown, hts⟩ (f_X10_canTake l dC dI cI cS H.size o4 a41 a42 a43 l4 f41 f42 f43 fr n le sp (hT) (occ_511 hoo)) (cwV 4 hts gX11_span_X10_canTake rfl rfl rfl (by decide +kernel) ⟨Nat.le_of_ble_eq_true rfl, Nat.le_of_ble_eq_true rfl⟩) ⟨fun a U g mk q => by obtain ⟨q0, q1, qP, qK, qD, qN0⟩ := q; exact ⟨q0, q1, qP, va_K.moved (u := U) (U := U.calling g mk a) (Vm.Alike.refl U.vm) qK, qD, va_Nw.same rfl rfl qN0⟩, va_recv hK hPc (ci := 10) (q0 := 0) rfl rfl, fun U hU hW => ⟨rfl, by rw [hU], by rw [hU]; exact hPc, va_K.moved hW.alike hK, hDc.weaken (fun _ _ _ _ => trivial), va_Nw.warmM hW hN35⟩⟩ rfl rfl hl.1 rfl (lv_room (Nat.le_of_ble_eq_true rfl)) dX11_span_28 ⟨Nat.le_of_ble_eq_true rfl, Nat.le_of_ble_eq_true rfl⟩) hS (fun q _ h => hFc q h) hFc (fun r_2 u t H1 locs ht hvm hw hB hz1 hk1 hSn => ?_)
  subst hw
  obtain ⟨hP1, hD1, hf2_0, hf2_1⟩ := hB
  rw [ht] at hP1
  obtain ⟨hPn, hDn⟩ := va_join (wr := [(oX, .inr (11, [.ref nT, .ref nL, .ref nM, .ref oC, .ref oP, .ref oH, .ref oK, .ref oG, .ref oR, .ref oQ, .ref oW, .int (-1)])), (oW, .inr (1, [.ref oC, .ref oK, .ref nw, .ref w1, .ref w2, .ref w3, .ref o7, .ref o8, .ref o9, .ref w4, .ref w5, .ref w6, .ref w7, .int ke, .int tl, .int fsh, .int wi, .int ri, .int fm, .int lm])), (oC, .inr (2, [.ref o4, .ref o5]))]) (w1 := [(o4, .inr (10, [.ref a41, .ref a42, .ref a43, .int l4])), (a41, .inl (cI, 256, .inl f41)), (a42, .inl (cI, 512, .inl f42)), (a43, .inl (cI, 512, .inl f43))]) hP hD [1, 2, 3, 4] [0, 5, 6] rfl rfl (by decide +kernel) (by decide +kernel) hk1 hFc hP1 hD1
  clear hP hD hS hPc hDc hFc hk1 hz1 hvm ht hP1 hD1
  generalize H1 = H at hPn hSn ⊢
  have hP : va_P (dC, dI) vwCl [(oX, .inr (11, [.ref nT, .ref nL, .ref nM, .ref oC, .ref oP, .ref oH, .ref oK, .ref oG, .ref oR, .ref oQ, .ref oW, .int (-1)])), (oW, .inr (1, [.ref oC, .ref oK, .ref nw, .ref w1, .ref w2, .ref w3, .ref o7, .ref o8, .ref o9, .ref w4, .ref w5, .ref w6, .ref w7, .int ke, .int tl, .int fsh, .int wi, .int ri, .int fm, .int lm])), (oC, .inr (2, [.ref o4, .ref o5])), (o4, .inr (10, [.ref a41, .ref a42, .ref a43, .int l4])), (a41, .inl (cI, 256, .inl f41)), (a42, .inl (cI, 512, .inl f42)), (a43, .inl (cI, 512, .inl f43))] H := hPn
  have hD : va_D A [(oX, .inr (11, [.ref nT, .ref nL, .ref nM, .ref oC, .ref oP, .ref oH, .ref oK, .ref oG, .ref oR, .ref oQ, .ref oW, .int (-1)])), (oW, .inr (1, [.ref oC, .ref oK, .ref nw, .ref w1, .ref w2, .ref w3, .ref o7, .ref o8, .ref o9, .ref w4, .ref w5, .ref w6, .ref w7, .int ke, .int tl, .int fsh, .int wi, .int ri, .int fm, .int lm])), (oC, .inr (2, [.ref o4, .ref o5])), (o4, .inr (10, [.ref a41, .ref a42, .ref a43, .int l4])), (a41, .inl (cI, 256, .inl f41)), (a42, .inl (cI, 512, .inl f42)), (a43, .inl (cI, 512, .inl f43))] := hDn
  have hS := hSn
  clear hPn hDn hSn
  refine lv_if_ne (tgt := 36) hx hb dX11_span_31 (by decide) (fun c_3 => ?_) (fun c_3 => ?_)
  · have tc_3 : ¬ r_2.toInt = 0 := v_ne c_3
    refine lv_iconst (v := 0) hx hb dX11_span_36 (by decide) ?_
    refine lv_istore (lv' := [(7, .int 0), (6, .ref o4), (0, .ref oX), (1, .int cd), (2, .int fr), (3, .int n), (4, .int le), (5, .int sp)]) hx hb dX11_span_37 hl (by decide) rfl (fun ls hl => ?_)
    have hCT := F_ct_1 hf2_1 (by omega)
    obtain ⟨hb1, hb2, hb3, hb4, hb5, hb6, hb7, hb8⟩ := hCT.1
    have LOOP_39 : ∀ (k_39 : Nat) (i : Int32) (l4a : Int32) (f41a : Nat → Int32) (f42a : Nat → Int32) (f43a : Nat → Int32) (H : Heap) (locs : List Loc) (ls : Array Slot), MSd (256 - i.toInt : Int) k_39 → (0 ≤ i.toInt ∧ i.toInt ≤ 256) → (i.toInt ≤ n.toInt) → (SPC i l4 l4a fr le sp f41 f42 f43 f41a f42a f43a) → va_P (dC, dI) vwCl [(oX, .inr (11, [.ref nT, .ref nL, .ref nM, .ref oC, .ref oP, .ref oH, .ref oK, .ref oG, .ref oR, .ref oQ, .ref oW, .int (-1)])), (oW, .inr (1, [.ref oC, .ref oK, .ref nw, .ref w1, .ref w2, .ref w3, .ref o7, .ref o8, .ref o9, .ref w4, .ref w5, .ref w6, .ref w7, .int ke, .int tl, .int fsh, .int wi, .int ri, .int fm, .int lm])), (oC, .inr (2, [.ref o4, .ref o5])), (o4, .inr (10, [.ref a41, .ref a42, .ref a43, .int l4a])), (a41, .inl (cI, 256, .inl f41a)), (a42, .inl (cI, 512, .inl f42a)), (a43, .inl (cI, 512, .inl f43a))] H → va_D A [(oX, .inr (11, [.ref nT, .ref nL, .ref nM, .ref oC, .ref oP, .ref oH, .ref oK, .ref oG, .ref oR, .ref oQ, .ref oW, .int (-1)])), (oW, .inr (1, [.ref oC, .ref oK, .ref nw, .ref w1, .ref w2, .ref w3, .ref o7, .ref o8, .ref o9, .ref w4, .ref w5, .ref w6, .ref w7, .int ke, .int tl, .int fsh, .int wi, .int ri, .int fm, .int lm])), (oC, .inr (2, [.ref o4, .ref o5])), (o4, .inr (10, [.ref a41, .ref a42, .ref a43, .int l4a])), (a41, .inl (cI, 256, .inl f41a)), (a42, .inl (cI, 512, .inl f42a)), (a43, .inl (cI, 512, .inl f43a))] → va_S A s.heap H locs → lv_has ls 8 [(7, .int i), (6, .ref o4), (0, .ref oX), (1, .int cd), (2, .int fr), (3, .int n), (4, .int le), (5, .int sp)] → W p l e (headSpec wsX11_span ({ frames := 3, cells := 0, slots := 0, locals := 73 } : Room)).room s m ([.ref oX, .int cd, .int fr, .int n, .int le, .int sp] : List Value).toArray below meth c H locs 0 0 (MQ below QQ ([.ref oX, .int cd, .int fr, .int n, .int le, .int sp] : List Value).toArray s 0 0 A) (F0 m 39 ls []) := by
      clear hP hD hS hl
      intro k_39
      induction k_39 with
      | zero =>
        intro i l4a f41a f42a f43a H locs ls hm_39 g_i hin hsp hP hD hS hl
        exact ms_0 hm_39
      | succ k_39 ih_39 =>
        intro i l4a f41a f42a f43a H locs ls hm_39 g_i hin hsp hP hD hS hl
        refine lv_iload hx hb dX11_span_39 (lv_at hl 0 rfl) ?_
        refine lv_iload_n hx hb dX11_span_41 rfl (lv_at hl 5 rfl) ?_
        refine lv_icmp_ge (tgt := 68) hx hb dX11_span_42 (by decide) (fun c_4 => ?_) (fun c_4 => ?_)
        · have tc_4 : n.toInt ≤ i.toInt := v_le c_4
          refine lv_aload_n hx hb dX11_span_68 rfl (lv_at hl 2 rfl) ?_
          refine va_get (D := (dC, dI)) (ci := 11) (v := .ref oW) (C := RX11) (T := TX11) (N := 12) hx hb hts in_X11 hown hK hP 0 rfl rfl 10 (by decide) (hts (.fieldLink RX11 86 "TextMender" "choiceBook" "LTextMender$Choices;") (List.mem_of_getElem? (i := 3) rfl)) (fun _ h9 => h9) rfl dX11_span_69 ?_
          have hPc := hP.sub (ws' := [(oW, .inr (1, [.ref oC, .ref oK, .ref nw, .ref w1, .ref w2, .ref w3, .ref o7, .ref o8, .ref o9, .ref w4, .ref w5, .ref w6, .ref w7, .int ke, .int tl, .int fsh, .int wi, .int ri, .int fm, .int lm]))]) [1] rfl
          have hDc := hD.sub (ws' := [(oW, .inr (1, [.ref oC, .ref oK, .ref nw, .ref w1, .ref w2, .ref w3, .ref o7, .ref o8, .ref o9, .ref w4, .ref w5, .ref w6, .ref w7, .int ke, .int tl, .int fsh, .int wi, .int ri, .int fm, .int lm]))]) [1] (by decide +kernel) rfl
          have hFc := va_free (wc := [(oW, .inr (1, [.ref oC, .ref oK, .ref nw, .ref w1, .ref w2, .ref w3, .ref o7, .ref o8, .ref o9, .ref w4, .ref w5, .ref w6, .ref w7, .int ke, .int tl, .int fsh, .int wi, .int ri, .int fm, .int lm]))]) hD hS hA [1] rfl
          refine va_callv (va_runV (As := []) (rest := []) ⟨hx, hb, hml, hown, hts⟩ (f_X1_forgetFreshness l dC dI cI cS H.size oW oC oK nw w1 w2 w3 o7 o8 o9 w4 w5 w6 w7 ke tl fsh wi ri fm lm (g_ke) (g_fsh) (g_fm) (g_lm)) (cwV 0 hts gX11_span_X1_forgetFreshness rfl rfl rfl (by decide +kernel) ⟨Nat.le_of_ble_eq_true rfl, Nat.le_of_ble_eq_true rfl⟩) ⟨fun a U g mk q => by obtain ⟨q0, q1, qP, qK, qD⟩ := q; exact ⟨q0, q1, qP, va_K.moved (u := U) (U := U.calling g mk a) (Vm.Alike.refl U.vm) qK, qD⟩, va_recv hK hPc (ci := 1) (q0 := 0) rfl rfl, fun U hU hW => ⟨rfl, by rw [hU], by rw [hU]; exact hPc, va_K.moved hW.alike hK, hDc.weaken (fun _ _ _ _ => trivial)⟩⟩ rfl rfl hl.1 rfl (lv_room (Nat.le_of_ble_eq_true rfl)) dX11_span_72 ⟨Nat.le_of_ble_eq_true rfl, Nat.le_of_ble_eq_true rfl⟩) hS (fun q _ h => hFc q h) hFc (fun u t H1 locs ht hvm hw hB hz1 hk1 hSn => ?_)
          obtain ⟨fsh_5, hP1, hD1, hf5_0, hf5_1⟩ := hB
          rw [ht] at hP1
          obtain ⟨hPn, hDn⟩ := va_join (wr := [(oX, .inr (11, [.ref nT, .ref nL, .ref nM, .ref oC, .ref oP, .ref oH, .ref oK, .ref oG, .ref oR, .ref oQ, .ref oW, .int (-1)])), (oC, .inr (2, [.ref o4, .ref o5])), (o4, .inr (10, [.ref a41, .ref a42, .ref a43, .int l4a])), (a41, .inl (cI, 256, .inl f41a)), (a42, .inl (cI, 512, .inl f42a)), (a43, .inl (cI, 512, .inl f43a))]) (w1 := [(oW, .inr (1, [.ref oC, .ref oK, .ref nw, .ref w1, .ref w2, .ref w3, .ref o7, .ref o8, .ref o9, .ref w4, .ref w5, .ref w6, .ref w7, .int ke, .int tl, .int fsh_5, .int wi, .int ri, .int fm, .int lm]))]) hP hD [1] [0, 2, 3, 4, 5, 6] rfl rfl (by decide +kernel) (by decide +kernel) hk1 hFc hP1 hD1
          clear hP hD hS hPc hDc hFc hk1 hz1 hvm ht hP1 hD1
          generalize H1 = H at hPn hSn ⊢
          have hP : va_P (dC, dI) vwCl [(oX, .inr (11, [.ref nT, .ref nL, .ref nM, .ref oC, .ref oP, .ref oH, .ref oK, .ref oG, .ref oR, .ref oQ, .ref oW, .int (-1)])), (oC, .inr (2, [.ref o4, .ref o5])), (o4, .inr (10, [.ref a41, .ref a42, .ref a43, .int l4a])), (a41, .inl (cI, 256, .inl f41a)), (a42, .inl (cI, 512, .inl f42a)), (a43, .inl (cI, 512, .inl f43a)), (oW, .inr (1, [.ref oC, .ref oK, .ref nw, .ref w1, .ref w2, .ref w3, .ref o7, .ref o8, .ref o9, .ref w4, .ref w5, .ref w6, .ref w7, .int ke, .int tl, .int fsh_5, .int wi, .int ri, .int fm, .int lm]))] H := hPn
          have hD : va_D A [(oX, .inr (11, [.ref nT, .ref nL, .ref nM, .ref oC, .ref oP, .ref oH, .ref oK, .ref oG, .ref oR, .ref oQ, .ref oW, .int (-1)])), (oC, .inr (2, [.ref o4, .ref o5])), (o4, .inr (10, [.ref a41, .ref a42, .ref a43, .int l4a])), (a41, .inl (cI, 256, .inl f41a)), (a42, .inl (cI, 512, .inl f42a)), (a43, .inl (cI, 512, .inl f43a)), (oW, .inr (1, [.ref oC, .ref oK, .ref nw, .ref w1, .ref w2, .ref w3, .ref o7, .ref o8, .ref o9, .ref w4, .ref w5, .ref w6, .ref w7, .int ke, .int tl, .int fsh_5, .int wi, .int ri, .int fm, .int lm]))] := hDn
          have hS := hSn
          clear hPn hDn hSn
          refine lv_aload hx hb dX11_span_75 (lv_at hl 1 rfl) ?_
          have hPc := hP.sub (ws' := [(o4, .inr (10, [.ref a41, .ref a42, .ref a43, .int l4a]))]) [2] rfl
          have hDc := hD.sub (ws' := [(o4, .inr (10, [.ref a41, .ref a42, .ref a43, .int l4a]))]) [2] (by decide +kernel) rfl
          have hFc := va_free (wc := [(o4, .inr (10, [.ref a41, .ref a42, .ref a43, .int l4a]))]) hD hS hA [2] rfl
          refine va_calli (va_runV (As := []) (rest := []) ⟨hx, hb, hml, hown, hts⟩ (m_X10_length l dC dI cI cS H.size o4 a41 a42 a43 l4a ) (cwV 0 hts gX11_span_X10_length rfl rfl rfl (by decide +kernel) ⟨Nat.le_of_ble_eq_true rfl, Nat.le_of_ble_eq_true rfl⟩) ⟨fun a U g mk q => by obtain ⟨q0, q1, qP, qK, qD⟩ := q; exact ⟨q0, q1, qP, va_K.moved (u := U) (U := U.calling g mk a) (Vm.Alike.refl U.vm) qK, qD⟩, va_recv hK hPc (ci := 10) (q0 := 0) rfl rfl, fun U hU hW => ⟨rfl, by rw [hU], by rw [hU]; exact hPc, va_K.moved hW.alike hK, hDc.weaken (fun _ _ _ _ => trivial)⟩⟩ rfl rfl hl.1 rfl (lv_room (Nat.le_of_ble_eq_true rfl)) dX11_span_77 ⟨Nat.le_of_ble_eq_true rfl, Nat.le_of_ble_eq_true rfl⟩) hS (fun q _ h => hFc q h) hFc (fun r_6 u t H1 locs ht hvm hw hB hz1 hk1 hSn => ?_)
          subst hw
          obtain ⟨hP1, hD1, hf6_0⟩ := hB
          rw [ht] at hP1
          obtain ⟨hPn, hDn⟩ := va_join (wr := [(oX, .inr (11, [.ref nT, .ref nL, .ref nM, .ref oC, .ref oP, .ref oH, .ref oK, .ref oG, .ref oR, .ref oQ, .ref oW, .int (-1)])), (oC, .inr (2, [.ref o4, .ref o5])), (a41, .inl (cI, 256, .inl f41a)), (a42, .inl (cI, 512, .inl f42a)), (a43, .inl (cI, 512, .inl f43a)), (oW, .inr (1, [.ref oC, .ref oK, .ref nw, .ref w1, .ref w2, .ref w3, .ref o7, .ref o8, .ref o9, .ref w4, .ref w5, .ref w6, .ref w7, .int ke, .int tl, .int fsh_5, .int wi, .int ri, .int fm, .int lm]))]) (w1 := [(o4, .inr (10, [.ref a41, .ref a42, .ref a43, .int l4a]))]) hP hD [2] [0, 1, 3, 4, 5, 6] rfl rfl (by decide +kernel) (by decide +kernel) hk1 hFc hP1 hD1
          clear hP hD hS hPc hDc hFc hk1 hz1 hvm ht hP1 hD1
          generalize H1 = H at hPn hSn ⊢
          have hP : va_P (dC, dI) vwCl [(oX, .inr (11, [.ref nT, .ref nL, .ref nM, .ref oC, .ref oP, .ref oH, .ref oK, .ref oG, .ref oR, .ref oQ, .ref oW, .int (-1)])), (oC, .inr (2, [.ref o4, .ref o5])), (a41, .inl (cI, 256, .inl f41a)), (a42, .inl (cI, 512, .inl f42a)), (a43, .inl (cI, 512, .inl f43a)), (oW, .inr (1, [.ref oC, .ref oK, .ref nw, .ref w1, .ref w2, .ref w3, .ref o7, .ref o8, .ref o9, .ref w4, .ref w5, .ref w6, .ref w7, .int ke, .int tl, .int fsh_5, .int wi, .int ri, .int fm, .int lm])), (o4, .inr (10, [.ref a41, .ref a42, .ref a43, .int l4a]))] H := hPn
          have hD : va_D A [(oX, .inr (11, [.ref nT, .ref nL, .ref nM, .ref oC, .ref oP, .ref oH, .ref oK, .ref oG, .ref oR, .ref oQ, .ref oW, .int (-1)])), (oC, .inr (2, [.ref o4, .ref o5])), (a41, .inl (cI, 256, .inl f41a)), (a42, .inl (cI, 512, .inl f42a)), (a43, .inl (cI, 512, .inl f43a)), (oW, .inr (1, [.ref oC, .ref oK, .ref nw, .ref w1, .ref w2, .ref w3, .ref o7, .ref o8, .ref o9, .ref w4, .ref w5, .ref w6, .ref w7, .int ke, .int tl, .int fsh_5, .int wi, .int ri, .int fm, .int lm])), (o4, .inr (10, [.ref a41, .ref a42, .ref a43, .int l4a]))] := hDn
          have hS := hSn
          clear hPn hDn hSn
          rw [hf6_0]
          have hP9 := hP.sub (ws' := [(oX, .inr (11, [.ref nT, .ref nL, .ref nM, .ref oC, .ref oP, .ref oH, .ref oK, .ref oG, .ref oR, .ref oQ, .ref oW, .int (-1)])), (oC, .inr (2, [.ref o4, .ref o5])), (o4, .inr (10, [.ref a41, .ref a42, .ref a43, .int l4a])), (a41, .inl (cI, 256, .inl f41a)), (a42, .inl (cI, 512, .inl f42a)), (a43, .inl (cI, 512, .inl f43a)), (oW, .inr (1, [.ref oC, .ref oK, .ref nw, .ref w1, .ref w2, .ref w3, .ref o7, .ref o8, .ref o9, .ref w4, .ref w5, .ref w6, .ref w7, .int ke, .int tl, .int fsh_5, .int wi, .int ri, .int fm, .int lm]))]) [0, 1, 6, 2, 3, 4, 5] rfl
          have hD9 := hD.sub (ws' := [(oX, .inr (11, [.ref nT, .ref nL, .ref nM, .ref oC, .ref oP, .ref oH, .ref oK, .ref oG, .ref oR, .ref oQ, .ref oW, .int (-1)])), (oC, .inr (2, [.ref o4, .ref o5])), (o4, .inr (10, [.ref a41, .ref a42, .ref a43, .int l4a])), (a41, .inl (cI, 256, .inl f41a)), (a42, .inl (cI, 512, .inl f42a)), (a43, .inl (cI, 512, .inl f43a)), (oW, .inr (1, [.ref oC, .ref oK, .ref nw, .ref w1, .ref w2, .ref w3, .ref o7, .ref o8, .ref o9, .ref w4, .ref w5, .ref w6, .ref w7, .int ke, .int tl, .int fsh_5, .int wi, .int ri, .int fm, .int lm]))]) [0, 1, 6, 2, 3, 4, 5] (by decide +kernel) rfl
          rw [hQQ]
          exact W.iret (v := l4a) hx hb hr (fun t ht hW => ⟨⟨l4a, l4a, rfl, rfl, ⟨(-1), fsh_5, l4a, f41a, f42a, f43a, by rw [ht]; exact hP9, hD9, hf5_0, Or.inl ⟨hCT, SPC_n hsp (by omega), rfl⟩, Or.inl ⟨hCT, hf5_1⟩⟩⟩, hS.F ht⟩) hS.2.2 dX11_span_80
        · have tc_4 : i.toInt < n.toInt := v_nle c_4
          refine lv_aload hx hb dX11_span_45 (lv_at hl 1 rfl) ?_
          refine lv_iload_n hx hb dX11_span_47 rfl (lv_at hl 4 rfl) ?_
          refine lv_iload hx hb dX11_span_48 (lv_at hl 0 rfl) ?_
          refine lv_iadd hx hb dX11_span_50 ?_
          refine lv_topi (fun x_7 ex_7 => ?_)
          have tx_7 : x_7.toInt = fr.toInt + i.toInt := v_add ex_7 (by show -2147483648 ≤ fr.toInt + i.toInt; omega) (by show fr.toInt + i.toInt < 2147483648; omega)
          refine lv_iload hx hb dX11_span_51 (lv_at hl 6 rfl) ?_
          refine lv_iload hx hb dX11_span_53 (lv_at hl 0 rfl) ?_
          refine lv_iload hx hb dX11_span_55 (lv_at hl 7 rfl) ?_
          refine lv_imul hx hb dX11_span_57 ?_
          refine lv_topi (fun x_8 ex_8 => ?_)
          have rv8_1 := v_rng sp
          refine lv_iadd hx hb dX11_span_58 ?_
          refine lv_topi (fun x_9 ex_9 => ?_)
          have rv9_0 := v_rng le
          have rv9_1 := v_rng x_8
          have hPc := hP.sub (ws' := [(o4, .inr (10, [.ref a41, .ref a42, .ref a43, .int l4a])), (a41, .inl (cI, 256, .inl f41a)), (a42, .inl (cI, 512, .inl f42a)), (a43, .inl (cI, 512, .inl f43a))]) [3, 4, 5, 6] rfl
          have hDc := hD.sub (ws' := [(o4, .inr (10, [.ref a41, .ref a42, .ref a43, .int l4a])), (a41, .inl (cI, 256, .inl f41a)), (a42, .inl (cI, 512, .inl f42a)), (a43, .inl (cI, 512, .inl f43a))]) [3, 4, 5, 6] (by decide +kernel) rfl
          have hFc := va_free (wc := [(o4, .inr (10, [.ref a41, .ref a42, .ref a43, .int l4a])), (a41, .inl (cI, 256, .inl f41a)), (a42, .inl (cI, 512, .inl f42a)), (a43, .inl (cI, 512, .inl f43a))]) hD hS hA [3, 4, 5, 6] rfl
          refine va_callv (va_runV (As := [.int x_7, .int x_9]) (rest := []) ⟨hx, hb, hml, hown, hts⟩ (f_X10_tell l dC dI cI cS H.size o4 a41 a42 a43 l4a f41a f42a f43a x_7 x_9 (by omega) (hsp.2.1) (occ_511 hsp.2.2.1)) (cwV 2 hts gX11_span_X10_tell rfl rfl rfl (by decide +kernel) ⟨Nat.le_of_ble_eq_true rfl, Nat.le_of_ble_eq_true rfl⟩) ⟨fun a U g mk q => by obtain ⟨q0, q1, qP, qK, qD⟩ := q; exact ⟨q0, q1, qP, va_K.moved (u := U) (U := U.calling g mk a) (Vm.Alike.refl U.vm) qK, qD⟩, va_recv hK hPc (ci := 10) (q0 := 0) rfl rfl, fun U hU hW => ⟨rfl, by rw [hU], by rw [hU]; exact hPc, va_K.moved hW.alike hK, hDc.weaken (fun _ _ _ _ => trivial)⟩⟩ rfl rfl hl.1 rfl (lv_room (Nat.le_of_ble_eq_true rfl)) dX11_span_59 ⟨Nat.le_of_ble_eq_true rfl, Nat.le_of_ble_eq_true rfl⟩) hS (fun q _ h => hFc q h) hFc (fun u t H1 locs ht hvm hw hB hz1 hk1 hSn => ?_)
          obtain ⟨lt_10, ft1_10, ft2_10, ft3_10, hP1, hD1, hf10_0⟩ := hB
          rw [ht] at hP1
          obtain ⟨hPn, hDn⟩ := va_join (wr := [(oX, .inr (11, [.ref nT, .ref nL, .ref nM, .ref oC, .ref oP, .ref oH, .ref oK, .ref oG, .ref oR, .ref oQ, .ref oW, .int (-1)])), (oW, .inr (1, [.ref oC, .ref oK, .ref nw, .ref w1, .ref w2, .ref w3, .ref o7, .ref o8, .ref o9, .ref w4, .ref w5, .ref w6, .ref w7, .int ke, .int tl, .int fsh, .int wi, .int ri, .int fm, .int lm])), (oC, .inr (2, [.ref o4, .ref o5]))]) (w1 := [(o4, .inr (10, [.ref a41, .ref a42, .ref a43, .int lt_10])), (a41, .inl (cI, 256, .inl ft1_10)), (a42, .inl (cI, 512, .inl ft2_10)), (a43, .inl (cI, 512, .inl ft3_10))]) hP hD [3, 4, 5, 6] [0, 1, 2] rfl rfl (by decide +kernel) (by decide +kernel) hk1 hFc hP1 hD1
          clear hP hD hS hPc hDc hFc hk1 hz1 hvm ht hP1 hD1
          generalize H1 = H at hPn hSn ⊢
          have hP : va_P (dC, dI) vwCl [(oX, .inr (11, [.ref nT, .ref nL, .ref nM, .ref oC, .ref oP, .ref oH, .ref oK, .ref oG, .ref oR, .ref oQ, .ref oW, .int (-1)])), (oW, .inr (1, [.ref oC, .ref oK, .ref nw, .ref w1, .ref w2, .ref w3, .ref o7, .ref o8, .ref o9, .ref w4, .ref w5, .ref w6, .ref w7, .int ke, .int tl, .int fsh, .int wi, .int ri, .int fm, .int lm])), (oC, .inr (2, [.ref o4, .ref o5])), (o4, .inr (10, [.ref a41, .ref a42, .ref a43, .int lt_10])), (a41, .inl (cI, 256, .inl ft1_10)), (a42, .inl (cI, 512, .inl ft2_10)), (a43, .inl (cI, 512, .inl ft3_10))] H := hPn
          have hD : va_D A [(oX, .inr (11, [.ref nT, .ref nL, .ref nM, .ref oC, .ref oP, .ref oH, .ref oK, .ref oG, .ref oR, .ref oQ, .ref oW, .int (-1)])), (oW, .inr (1, [.ref oC, .ref oK, .ref nw, .ref w1, .ref w2, .ref w3, .ref o7, .ref o8, .ref o9, .ref w4, .ref w5, .ref w6, .ref w7, .int ke, .int tl, .int fsh, .int wi, .int ri, .int fm, .int lm])), (oC, .inr (2, [.ref o4, .ref o5])), (o4, .inr (10, [.ref a41, .ref a42, .ref a43, .int lt_10])), (a41, .inl (cI, 256, .inl ft1_10)), (a42, .inl (cI, 512, .inl ft2_10)), (a43, .inl (cI, 512, .inl ft3_10))] := hDn
          have hS := hSn
          clear hPn hDn hSn
          obtain ⟨x_11, ex_11⟩ : ∃ y : Int32, y = i + 1 := ⟨_, rfl⟩
          have tx_11 : x_11.toInt = i.toInt + 1 := v_add ex_11 (by show -2147483648 ≤ i.toInt + 1; omega) (by show i.toInt + 1 < 2147483648; omega)
          refine lv_iinc (v := x_11) (lv' := [(7, .int x_11), (6, .ref o4), (0, .ref oX), (1, .int cd), (2, .int fr), (3, .int n), (4, .int le), (5, .int sp)]) hx hb dX11_span_62 hl (k := 0) rfl (by rw [ex_11]; rfl) (by decide) rfl (fun ls hl => ?_)
          refine lv_goto (tgt := 39) hx hb dX11_span_65 (by decide) ?_
          exact ih_39 x_11 lt_10 ft1_10 ft2_10 ft3_10 _ _ _ (ms_lt hm_39 (by show ((256 - x_11.toInt : Int)) < 256 - i.toInt; omega) (by show (0 : Int) < 256 - i.toInt; omega)) (by show 0 ≤ x_11.toInt ∧ x_11.toInt ≤ 256; omega) (by show x_11.toInt ≤ n.toInt; omega) (SPC_s hCT hsp (by omega) (by omega) ex_8 ex_9 (by omega) hf10_0 (by omega)) hP hD hS (lv_sub hl [0, 1, 2, 3, 4, 5, 6, 7] rfl)
    exact LOOP_39 _ 0 l4 f41 f42 f43 _ _ _ (ms_s _) (by decide) (by show 0 ≤ n.toInt; omega) (SPC_0 hT hoo) hP hD hS (lv_sub hl [0, 1, 2, 3, 4, 5, 6, 7] rfl)
  · have tc_3 : r_2.toInt = 0 := v_eq c_3
    refine lv_iconst (v := (-1)) hx hb dX11_span_34 (by decide) ?_
    have hP9 := hP.sub (ws' := [(oX, .inr (11, [.ref nT, .ref nL, .ref nM, .ref oC, .ref oP, .ref oH, .ref oK, .ref oG, .ref oR, .ref oQ, .ref oW, .int (-1)])), (oC, .inr (2, [.ref o4, .ref o5])), (o4, .inr (10, [.ref a41, .ref a42, .ref a43, .int l4])), (a41, .inl (cI, 256, .inl f41)), (a42, .inl (cI, 512, .inl f42)), (a43, .inl (cI, 512, .inl f43)), (oW, .inr (1, [.ref oC, .ref oK, .ref nw, .ref w1, .ref w2, .ref w3, .ref o7, .ref o8, .ref o9, .ref w4, .ref w5, .ref w6, .ref w7, .int ke, .int tl, .int fsh, .int wi, .int ri, .int fm, .int lm]))]) [0, 2, 3, 4, 5, 6, 1] rfl
    have hD9 := hD.sub (ws' := [(oX, .inr (11, [.ref nT, .ref nL, .ref nM, .ref oC, .ref oP, .ref oH, .ref oK, .ref oG, .ref oR, .ref oQ, .ref oW, .int (-1)])), (oC, .inr (2, [.ref o4, .ref o5])), (o4, .inr (10, [.ref a41, .ref a42, .ref a43, .int l4])), (a41, .inl (cI, 256, .inl f41)), (a42, .inl (cI, 512, .inl f42)), (a43, .inl (cI, 512, .inl f43)), (oW, .inr (1, [.ref oC, .ref oK, .ref nw, .ref w1, .ref w2, .ref w3, .ref o7, .ref o8, .ref o9, .ref w4, .ref w5, .ref w6, .ref w7, .int ke, .int tl, .int fsh, .int wi, .int ri, .int fm, .int lm]))]) [0, 2, 3, 4, 5, 6, 1] (by decide +kernel) rfl
    rw [hQQ]
    exact W.iret (v := (-1)) hx hb hr (fun t ht hW => ⟨⟨(-1), (-1), rfl, rfl, ⟨(-1), fsh, l4, f41, f42, f43, by rw [ht]; exact hP9, hD9, g_fsh, Or.inr ⟨rfl, rfl, rfl, rfl, rfl, F_ct_0 hf2_1 (by omega)⟩, Or.inr ⟨F_ct_0 hf2_1 (by omega), rfl⟩⟩⟩, hS.F ht⟩) hS.2.2 dX11_span_35

set_option maxHeartbeats 40000000 in
set_option maxRecDepth 100000 in
theorem f_blank_4 (l : Launch) (dC : Nat → ClassId) (dI : Nat → Nat → Nat) (cI cS : ClassId) (sz : Nat) (oX : Nat) (nT : Nat) (nL : Nat) (nM : Nat) (oC : Nat) (oP : Nat) (oH : Nat) (oK : Nat) (oG : Nat) (oR : Nat) (oQ : Nat) (oW : Nat) (o4 : Nat) (o5 : Nat) (a41 : Nat) (a42 : Nat) (a43 : Nat) (nw : Nat) (w1 : Nat) (w2 : Nat) (w3 : Nat) (o7 : Nat) (o8 : Nat) (o9 : Nat) (w4 : Nat) (w5 : Nat) (w6 : Nat) (w7 : Nat) (fa : Int32) (l4 : Int32) (f41 : Nat → Int32) (f43 : Nat → Int32) (ke : Int32) (tl : Int32) (fsh : Int32) (wi : Int32) (ri : Int32) (fm : Int32) (lm : Int32) (cd : Int32) (g_ke : 0 ≤ ke.toInt ∧ ke.toInt ≤ 200) (g_fsh : 0 ≤ fsh.toInt ∧ fsh.toInt ≤ 1) (g_fm : -1 ≤ fm.toInt ∧ fm.toInt ≤ 800) (g_lm : -1 ≤ lm.toInt ∧ lm.toInt ≤ 800) (hcd : cd.toInt = 4) : Met l yX11_blank wsX11_blank ({ frames := 2, cells := 0, slots := 0, locals := 43 } : Room) (va_Pc [.ref oX, .int cd] (fun U => U.heap.size = sz ∧ va_P (dC, dI) vwCl [(oX, .inr (11, [.ref nT, .ref nL, .ref nM, .ref oC, .ref oP, .ref oH, .ref oK, .ref oG, .ref oR, .ref oQ, .ref oW, .int fa])), (oC, .inr (2, [.ref o4, .ref o5])), (o4, .inr (10, [.ref a41, .ref a42, .ref a43, .int l4])), (a41, .inl (cI, 256, .inl f41)), (a43, .inl (cI, 512, .inl f43)), (oW, .inr (1, [.ref oC, .ref oK, .ref nw, .ref w1, .ref w2, .ref w3, .ref o7, .ref o8, .ref o9, .ref w4, .ref w5, .ref w6, .ref w7, .int ke, .int tl, .int fsh, .int wi, .int ri, .int fm, .int lm]))] U.heap ∧ va_K (dC, dI) vwCl [(cI, .int), (cS, .short)] U ∧ va_D (fun _ => True) [(oX, .inr (11, [.ref nT, .ref nL, .ref nM, .ref oC, .ref oP, .ref oH, .ref oK, .ref oG, .ref oR, .ref oQ, .ref oW, .int fa])), (oC, .inr (2, [.ref o4, .ref o5])), (o4, .inr (10, [.ref a41, .ref a42, .ref a43, .int l4])), (a41, .inl (cI, 256, .inl f41)), (a43, .inl (cI, 512, .inl f43)), (oW, .inr (1, [.ref oC, .ref oK, .ref nw, .ref w1, .ref w2, .ref w3, .ref o7, .ref o8, .ref o9, .ref w4, .ref w5, .ref w6, .ref w7, .int ke, .int tl, .int fsh, .int wi, .int ri, .int fm, .int lm]))])) (va_Qi (fun (r : Int32) (u : Int32) => r = u) (fun (r : Int32) t => ∃ (fsh' : Int32) (l4' : Int32) (f41' : Nat → Int32) (f43' : Nat → Int32), va_P (dC, dI) vwCl [(oX, .inr (11, [.ref nT, .ref nL, .ref nM, .ref oC, .ref oP, .ref oH, .ref oK, .ref oG, .ref oR, .ref oQ, .ref oW, .int fa])), (oC, .inr (2, [.ref o4, .ref o5])), (o4, .inr (10, [.ref a41, .ref a42, .ref a43, .int l4'])), (a41, .inl (cI, 256, .inl f41')), (a43, .inl (cI, 512, .inl f43')), (oW, .inr (1, [.ref oC, .ref oK, .ref nw, .ref w1, .ref w2, .ref w3, .ref o7, .ref o8, .ref o9, .ref w4, .ref w5, .ref w6, .ref w7, .int ke, .int tl, .int fsh', .int wi, .int ri, .int fm, .int lm]))] t.heap ∧ va_D (va_A [(oX, .inr (11, [.ref nT, .ref nL, .ref nM, .ref oC, .ref oP, .ref oH, .ref oK, .ref oG, .ref oR, .ref oQ, .ref oW, .int fa])), (oC, .inr (2, [.ref o4, .ref o5])), (o4, .inr (10, [.ref a41, .ref a42, .ref a43, .int l4])), (a41, .inl (cI, 256, .inl f41)), (a43, .inl (cI, 512, .inl f43)), (oW, .inr (1, [.ref oC, .ref oK, .ref nw, .ref w1, .ref w2, .ref w3, .ref o7, .ref o8, .ref o9, .ref w4, .ref w5, .ref w6, .ref w7, .int ke, .int tl, .int fsh, .int wi, .int ri, .int fm, .int lm]))] sz) [(oX, .inr (11, [.ref nT, .ref nL, .ref nM, .ref oC, .ref oP, .ref oH, .ref oK, .ref oG, .ref oR, .ref oQ, .ref oW, .int fa])), (oC, .inr (2, [.ref o4, .ref o5])), (o4, .inr (10, [.ref a41, .ref a42, .ref a43, .int l4'])), (a41, .inl (cI, 256, .inl f41')), (a43, .inl (cI, 512, .inl f43')), (oW, .inr (1, [.ref oC, .ref oK, .ref nw, .ref w1, .ref w2, .ref w3, .ref o7, .ref o8, .ref o9, .ref w4, .ref w5, .ref w6, .ref w7, .int ke, .int tl, .int fsh', .int wi, .int ri, .int fm, .int lm]))] ∧ (0 ≤ fsh'.toInt ∧ fsh'.toInt ≤ 1) ∧ (r = 1) ∧ (l4' = 0) ∧ (F_fill 256 f41' (-1)) ∧ (F_fill 512 f43' (-1)) ∧ (fsh' = 0)) (va_A [(oX, .inr (11, [.ref nT, .ref nL, .ref nM, .ref oC, .ref oP, .ref oH, .ref oK, .ref oG, .ref oR, .ref oQ, .ref oW, .int fa])), (oC, .inr (2, [.ref o4, .ref o5])), (o4, .inr (10, [.ref a41, .ref a42, .ref a43, .int l4])), (a41, .inl (cI, 256, .inl f41)), (a43, .inl (cI, 512, .inl f43)), (oW, .inr (1, [.ref oC, .ref oK, .ref nw, .ref w1, .ref w2, .ref w3, .ref o7, .ref o8, .ref o9, .ref w4, .ref w5, .ref w6, .ref w7, .int ke, .int tl, .int fsh, .int wi, .int ri, .int fm, .int lm]))] sz)) 0 0 (va_A [(oX, .inr (11, [.ref nT, .ref nL, .ref nM, .ref oC, .ref oP, .ref oH, .ref oK, .ref oG, .ref oR, .ref oQ, .ref oW, .int fa])), (oC, .inr (2, [.ref o4, .ref o5])), (o4, .inr (10, [.ref a41, .ref a42, .ref a43, .int l4])), (a41, .inl (cI, 256, .inl f41)), (a43, .inl (cI, 512, .inl f43)), (oW, .inr (1, [.ref oC, .ref oK, .ref nw, .ref w1, .ref w2, .ref w3, .ref o7, .ref o8, .ref o9, .ref w4, .ref w5, .ref w6, .ref w7, .int ke, .int tl, .int fsh, .int wi, .int ri, .int fm, .int lm]))] sz) := by
  refine Met.ofW (cc := cX11_blank) (maxL := 3) (ret := (some .boolean)) (by decide) rfl ?_
  intro p e s m args below meth c s₁ B hml hv
  obtain ⟨rfl, hsz, hP, hK, hD0⟩ := hv
  have hx := B.exec
  have hb := B.bytes
  have hr := B.returns
  have hts := atoms_spec (ws := wsX11_blank) B.pre
  have hown : s.vm.findClass RX11 = some m.cls := findClass_of_methodNamed B.named
  have hlocks := B.notSynchronized
  have in_X11 : ∀ w ∈ wsX110, w ∈ wsX11_blank := fun _ h => List.mem_cons_of_mem _ (List.mem_append_left _ (List.mem_append_left _ (List.mem_append_left _ (List.mem_append_right _ (h)))))
  subst hsz
  have hD := hD0.self (sz := s.heap.size)
  generalize hAe : va_A [(oX, .inr (11, [.ref nT, .ref nL, .ref nM, .ref oC, .ref oP, .ref oH, .ref oK, .ref oG, .ref oR, .ref oQ, .ref oW, .int fa])), (oC, .inr (2, [.ref o4, .ref o5])), (o4, .inr (10, [.ref a41, .ref a42, .ref a43, .int l4])), (a41, .inl (cI, 256, .inl f41)), (a43, .inl (cI, 512, .inl f43)), (oW, .inr (1, [.ref oC, .ref oK, .ref nw, .ref w1, .ref w2, .ref w3, .ref o7, .ref o8, .ref o9, .ref w4, .ref w5, .ref w6, .ref w7, .int ke, .int tl, .int fsh, .int wi, .int ri, .int fm, .int lm]))] s.heap.size = A at hD ⊢
  have hA : ∀ q : Nat, s.heap.size ≤ q → A q := fun q h => by rw [← hAe]; exact Or.inr h
  have hS : va_S A s.heap s.heap [] := va_S.rf
  have hP : va_P (dC, dI) vwCl [(oX, .inr (11, [.ref nT, .ref nL, .ref nM, .ref oC, .ref oP, .ref oH, .ref oK, .ref oG, .ref oR, .ref oQ, .ref oW, .int fa])), (oC, .inr (2, [.ref o4, .ref o5])), (o4, .inr (10, [.ref a41, .ref a42, .ref a43, .int l4])), (a41, .inl (cI, 256, .inl f41)), (a43, .inl (cI, 512, .inl f43)), (oW, .inr (1, [.ref oC, .ref oK, .ref nw, .ref w1, .ref w2, .ref w3, .ref o7, .ref o8, .ref o9, .ref w4, .ref w5, .ref w6, .ref w7, .int ke, .int tl, .int fsh, .int wi, .int ri, .int fm, .int lm]))] s.heap := hP
  have hl := lv_entry ([.ref oX, .int cd]) (n := 3) (Nat.le_of_ble_eq_true rfl)
  rw [lg_entry_eq]
  generalize (lg_sl ([.ref oX, .int cd]) ++ List.replicate (3 - (lg_sl ([.ref oX, .int cd])).length) Slot.unset).toArray = ls at hl ⊢
  have hl : lv_has ls 3 [(0, .ref oX), (1, .int cd)] := hl
  obtain ⟨QQ, hQQ⟩ : ∃ QQ : Array Value → State → Outcome → State → Prop, QQ = va_Qi (fun (r : Int32) (u : Int32) => r = u) (fun (r : Int32) t => ∃ (fsh' : Int32) (l4' : Int32) (f41' : Nat → Int32) (f43' : Nat → Int32), va_P (dC, dI) vwCl [(oX, .inr (11, [.ref nT, .ref nL, .ref nM, .ref oC, .ref oP, .ref oH, .ref oK, .ref oG, .ref oR, .ref oQ, .ref oW, .int fa])), (oC, .inr (2, [.ref o4, .ref o5])), (o4, .inr (10, [.ref a41, .ref a42, .ref a43, .int l4'])), (a41, .inl (cI, 256, .inl f41')), (a43, .inl (cI, 512, .inl f43')), (oW, .inr (1, [.ref oC, .ref oK, .ref nw, .ref w1, .ref w2, .ref w3, .ref o7, .ref o8, .ref o9, .ref w4, .ref w5, .ref w6, .ref w7, .int ke, .int tl, .int fsh', .int wi, .int ri, .int fm, .int lm]))] t.heap ∧ va_D A [(oX, .inr (11, [.ref nT, .ref nL, .ref nM, .ref oC, .ref oP, .ref oH, .ref oK, .ref oG, .ref oR, .ref oQ, .ref oW, .int fa])), (oC, .inr (2, [.ref o4, .ref o5])), (o4, .inr (10, [.ref a41, .ref a42, .ref a43, .int l4'])), (a41, .inl (cI, 256, .inl f41')), (a43, .inl (cI, 512, .inl f43')), (oW, .inr (1, [.ref oC, .ref oK, .ref nw, .ref w1, .ref w2, .ref w3, .ref o7, .ref o8, .ref o9, .ref w4, .ref w5, .ref w6, .ref w7, .int ke, .int tl, .int fsh', .int wi, .int ri, .int fm, .int lm]))] ∧ (0 ≤ fsh'.toInt ∧ fsh'.toInt ≤ 1) ∧ (r = 1) ∧ (l4' = 0) ∧ (F_fill 256 f41' (-1)) ∧ (F_fill 512 f43' (-1)) ∧ (fsh' = 0)) A := ⟨_, rfl⟩
  rw [← hQQ]
  refine lv_aload_n hx hb dX11_blank_0 rfl (lv_at hl 0 rfl) ?_
  refine va_get (D := (dC, dI)) (ci := 11) (v := .ref oC) (C := RX11) (T := TX11) (N := 12) hx hb hts in_X11 hown hK hP 0 rfl rfl 3 (by decide) (hts (.fieldLink RX11 40 "TextMender" "codes" "LTextMender$Codes;") (List.mem_of_getElem? (i := 1) rfl)) (fun _ h9 => h9) rfl dX11_blank_1 ?_
  refine lv_iload_n hx hb dX11_blank_4 rfl (lv_at hl 1 rfl) ?_
  have hPc := hP.sub (ws' := [(oC, .inr (2, [.ref o4, .ref o5]))]) [1] rfl
  have hDc := hD.sub (ws' := [(oC, .inr (2, [.ref o4, .ref o5]))]) [1] (by decide +kernel) rfl
  have hFc := va_free (wc := [(oC, .inr (2, [.ref o4, .ref o5]))]) hD hS hA [1] rfl
  refine va_callr (va_runV (As := [.int cd]) (rest := []) ⟨hx, hb, hml, hown, hts⟩ (m_X2_toldCode_4 l dC dI cI cS s.heap.size oC o4 o5 cd (by omega)) (cwV 1 hts gX11_blank_X2_toldCode rfl rfl rfl (by decide +kernel) ⟨Nat.le_of_ble_eq_true rfl, Nat.le_of_ble_eq_true rfl⟩) ⟨fun a U g mk q => by obtain ⟨q0, q1, qP, qK, qD⟩ := q; exact ⟨q0, q1, qP, va_K.moved (u := U) (U := U.calling g mk a) (Vm.Alike.refl U.vm) qK, qD⟩, va_recv hK hPc (ci := 2) (q0 := 0) rfl rfl, fun U hU hW => ⟨rfl, by rw [hU], by rw [hU]; exact hPc, va_K.moved hW.alike hK, hDc.weaken (fun _ _ _ _ => trivial)⟩⟩ rfl rfl hl.1 rfl (lv_room (Nat.le_of_ble_eq_true rfl)) dX11_blank_5 ⟨Nat.le_of_ble_eq_true rfl, Nat.le_of_ble_eq_true rfl⟩) hS (fun q _ h => hFc q h) hFc (fun u r_1 t H1 locs ht hvm hw hB hz1 hk1 hSn => ?_)
  obtain ⟨hra, hP1, hD1⟩ := hB
  rw [hra]
  rw [ht] at hP1
  obtain ⟨hPn, hDn⟩ := va_join (wr := [(oX, .inr (11, [.ref nT, .ref nL, .ref nM, .ref oC, .ref oP, .ref oH, .ref oK, .ref oG, .ref oR, .ref oQ, .ref oW, .int fa])), (o4, .inr (10, [.ref a41, .ref a42, .ref a43, .int l4])), (a41, .inl (cI, 256, .inl f41)), (a43, .inl (cI, 512, .inl f43)), (oW, .inr (1, [.ref oC, .ref oK, .ref nw, .ref w1, .ref w2, .ref w3, .ref o7, .ref o8, .ref o9, .ref w4, .ref w5, .ref w6, .ref w7, .int ke, .int tl, .int fsh, .int wi, .int ri, .int fm, .int lm]))]) (w1 := [(oC, .inr (2, [.ref o4, .ref o5]))]) hP hD [1] [0, 2, 3, 4, 5] rfl rfl (by decide +kernel) (by decide +kernel) hk1 hFc hP1 hD1
  clear hP hD hS hPc hDc hFc hk1 hz1 hvm ht hP1 hD1
  generalize H1 = H at hPn hSn ⊢
  have hP : va_P (dC, dI) vwCl [(oX, .inr (11, [.ref nT, .ref nL, .ref nM, .ref oC, .ref oP, .ref oH, .ref oK, .ref oG, .ref oR, .ref oQ, .ref oW, .int fa])), (o4, .inr (10, [.ref a41, .ref a42, .ref a43, .int l4])), (a41, .inl (cI, 256, .inl f41)), (a43, .inl (cI, 512, .inl f43)), (oW, .inr (1, [.ref oC, .ref oK, .ref nw, .ref w1, .ref w2, .ref w3, .ref o7, .ref o8, .ref o9, .ref w4, .ref w5, .ref w6, .ref w7, .int ke, .int tl, .int fsh, .int wi, .int ri, .int fm, .int lm])), (oC, .inr (2, [.ref o4, .ref o5]))] H := hPn
  have hD : va_D A [(oX, .inr (11, [.ref nT, .ref nL, .ref nM, .ref oC, .ref oP, .ref oH, .ref oK, .ref oG, .ref oR, .ref oQ, .ref oW, .int fa])), (o4, .inr (10, [.ref a41, .ref a42, .ref a43, .int l4])), (a41, .inl (cI, 256, .inl f41)), (a43, .inl (cI, 512, .inl f43)), (oW, .inr (1, [.ref oC, .ref oK, .ref nw, .ref w1, .ref w2, .ref w3, .ref o7, .ref o8, .ref o9, .ref w4, .ref w5, .ref w6, .ref w7, .int ke, .int tl, .int fsh, .int wi, .int ri, .int fm, .int lm])), (oC, .inr (2, [.ref o4, .ref o5]))] := hDn
  have hS := hSn
  clear hPn hDn hSn
  refine lv_astore_n (lv' := [(2, .ref o4), (0, .ref oX), (1, .int cd)]) hx hb dX11_blank_8 rfl hl (by decide) rfl (fun ls hl => ?_)
  refine lv_aload_n hx hb dX11_blank_9 rfl (lv_at hl 0 rfl) ?_
  refine lv_ifnonnull (tgt := 15) hx hb dX11_blank_10 (by decide) ?_
  refine lv_aload_n hx hb dX11_blank_15 rfl (lv_at hl 0 rfl) ?_
  have hPc := hP.sub (ws' := [(o4, .inr (10, [.ref a41, .ref a42, .ref a43, .int l4])), (a41, .inl (cI, 256, .inl f41)), (a43, .inl (cI, 512, .inl f43))]) [1, 2, 3] rfl
  have hDc := hD.sub (ws' := [(o4, .inr (10, [.ref a41, .ref a42, .ref a43, .int l4])), (a41, .inl (cI, 256, .inl f41)), (a43, .inl (cI, 512, .inl f43))]) [1, 2, 3] (by decide +kernel) rfl
  have hFc := va_free (wc := [(o4, .inr (10, [.ref a41, .ref a42, .ref a43, .int l4])), (a41, .inl (cI, 256, .inl f41)), (a43, .inl (cI, 512, .inl f43))]) hD hS hA [1, 2, 3] rfl
  refine va_callv (va_runV (As := []) (rest := []) ⟨hx, hb, hml, hown, hts⟩ (m_X10_empty l dC dI cI cS H.size o4 a41 a42 a43 l4 f41 f43 ) (cwV 0 hts gX11_blank_X10_empty rfl rfl rfl (by decide +kernel) ⟨Nat.le_of_ble_eq_true rfl, Nat.le_of_ble_eq_true rfl⟩) ⟨fun a U g mk q => by obtain ⟨q0, q1, qP, qK, qD⟩ := q; exact ⟨q0, q1, qP, va_K.moved (u := U) (U := U.calling g mk a) (Vm.Alike.refl U.vm) qK, qD⟩, va_recv hK hPc (ci := 10) (q0 := 0) rfl rfl, fun U hU hW => ⟨rfl, by rw [hU], by rw [hU]; exact hPc, va_K.moved hW.alike hK, hDc.weaken (fun _ _ _ _ => trivial)⟩⟩ rfl rfl hl.1 rfl (lv_room (Nat.le_of_ble_eq_true rfl)) dX11_blank_16 ⟨Nat.le_of_ble_eq_true rfl, Nat.le_of_ble_eq_true rfl⟩) hS (fun q _ h => hFc q h) hFc (fun u t H1 locs ht hvm hw hB hz1 hk1 hSn => ?_)
  obtain ⟨lt_2, ft1_2, ft3_2, hP1, hD1, hf2_0, hf2_1, hf2_2⟩ := hB
  rw [ht] at hP1
  obtain ⟨hPn, hDn⟩ := va_join (wr := [(oX, .inr (11, [.ref nT, .ref nL, .ref nM, .ref oC, .ref oP, .ref oH, .ref oK, .ref oG, .ref oR, .ref oQ, .ref oW, .int fa])), (oW, .inr (1, [.ref oC, .ref oK, .ref nw, .ref w1, .ref w2, .ref w3, .ref o7, .ref o8, .ref o9, .ref w4, .ref w5, .ref w6, .ref w7, .int ke, .int tl, .int fsh, .int wi, .int ri, .int fm, .int lm])), (oC, .inr (2, [.ref o4, .ref o5]))]) (w1 := [(o4, .inr (10, [.ref a41, .ref a42, .ref a43, .int lt_2])), (a41, .inl (cI, 256, .inl ft1_2)), (a43, .inl (cI, 512, .inl ft3_2))]) hP hD [1, 2, 3] [0, 4, 5] rfl rfl (by decide +kernel) (by decide +kernel) hk1 hFc hP1 hD1
  clear hP hD hS hPc hDc hFc hk1 hz1 hvm ht hP1 hD1
  generalize H1 = H at hPn hSn ⊢
  have hP : va_P (dC, dI) vwCl [(oX, .inr (11, [.ref nT, .ref nL, .ref nM, .ref oC, .ref oP, .ref oH, .ref oK, .ref oG, .ref oR, .ref oQ, .ref oW, .int fa])), (oW, .inr (1, [.ref oC, .ref oK, .ref nw, .ref w1, .ref w2, .ref w3, .ref o7, .ref o8, .ref o9, .ref w4, .ref w5, .ref w6, .ref w7, .int ke, .int tl, .int fsh, .int wi, .int ri, .int fm, .int lm])), (oC, .inr (2, [.ref o4, .ref o5])), (o4, .inr (10, [.ref a41, .ref a42, .ref a43, .int lt_2])), (a41, .inl (cI, 256, .inl ft1_2)), (a43, .inl (cI, 512, .inl ft3_2))] H := hPn
  have hD : va_D A [(oX, .inr (11, [.ref nT, .ref nL, .ref nM, .ref oC, .ref oP, .ref oH, .ref oK, .ref oG, .ref oR, .ref oQ, .ref oW, .int fa])), (oW, .inr (1, [.ref oC, .ref oK, .ref nw, .ref w1, .ref w2, .ref w3, .ref o7, .ref o8, .ref o9, .ref w4, .ref w5, .ref w6, .ref w7, .int ke, .int tl, .int fsh, .int wi, .int ri, .int fm, .int lm])), (oC, .inr (2, [.ref o4, .ref o5])), (o4, .inr (10, [.ref a41, .ref a42, .ref a43, .int lt_2])), (a41, .inl (cI, 256, .inl ft1_2)), (a43, .inl (cI, 512, .inl ft3_2))] := hDn
  have hS := hSn
  clear hPn hDn hSn
  refine lv_aload_n hx hb dX11_blank_19 rfl (lv_at hl 1 rfl) ?_
  refine va_get (D := (dC, dI)) (ci := 11) (v := .ref oW) (C := RX11) (T := TX11) (N := 12) hx hb hts in_X11 hown hK hP 0 rfl rfl 10 (by decide) (hts (.fieldLink RX11 86 "TextMender" "choiceBook" "LTextMender$Choices;") (List.mem_of_getElem? (i := 2) rfl)) (fun _ h9 => h9) rfl dX11_blank_20 ?_
  have hPc := hP.sub (ws' := [(oW, .inr (1, [.ref oC, .ref oK, .ref nw, .ref w1, .ref w2, .ref w3, .ref o7, .ref o8, .ref o9, .ref w4, .ref w5, .ref w6, .ref w7, .int ke, .int tl, .int fsh, .int wi, .int ri, .int fm, .int lm]))]) [1] rfl
  have hDc := hD.sub (ws' := [(oW, .inr (1, [.ref oC, .ref oK, .ref nw, .ref w1, .ref w2, .ref w3, .ref o7, .ref o8, .ref o9, .ref w4, .ref w5, .ref w6, .ref w7, .int ke, .int tl, .int fsh, .int wi, .int ri, .int fm, .int lm]))]) [1] (by decide +kernel) rfl
  have hFc := va_free (wc := [(oW, .inr (1, [.ref oC, .ref oK, .ref nw, .ref w1, .ref w2, .ref w3, .ref o7, .ref o8, .ref o9, .ref w4, .ref w5, .ref w6, .ref w7, .int ke, .int tl, .int fsh, .int wi, .int ri, .int fm, .int lm]))]) hD hS hA [1] rfl
  refine va_callv (va_runV (As := []) (rest := []) ⟨hx, hb, hml, hown, hts⟩ (f_X1_forgetFreshness l dC dI cI cS H.size oW oC oK nw w1 w2 w3 o7 o8 o9 w4 w5 w6 w7 ke tl fsh wi ri fm lm (g_ke) (g_fsh) (g_fm) (g_lm)) (cwV 0 hts gX11_blank_X1_forgetFreshness rfl rfl rfl (by decide +kernel) ⟨Nat.le_of_ble_eq_true rfl, Nat.le_of_ble_eq_true rfl⟩) ⟨fun a U g mk q => by obtain ⟨q0, q1, qP, qK, qD⟩ := q; exact ⟨q0, q1, qP, va_K.moved (u := U) (U := U.calling g mk a) (Vm.Alike.refl U.vm) qK, qD⟩, va_recv hK hPc (ci := 1) (q0 := 0) rfl rfl, fun U hU hW => ⟨rfl, by rw [hU], by rw [hU]; exact hPc, va_K.moved hW.alike hK, hDc.weaken (fun _ _ _ _ => trivial)⟩⟩ rfl rfl hl.1 rfl (lv_room (Nat.le_of_ble_eq_true rfl)) dX11_blank_23 ⟨Nat.le_of_ble_eq_true rfl, Nat.le_of_ble_eq_true rfl⟩) hS (fun q _ h => hFc q h) hFc (fun u t H1 locs ht hvm hw hB hz1 hk1 hSn => ?_)
  obtain ⟨fsh_3, hP1, hD1, hf3_0, hf3_1⟩ := hB
  rw [ht] at hP1
  obtain ⟨hPn, hDn⟩ := va_join (wr := [(oX, .inr (11, [.ref nT, .ref nL, .ref nM, .ref oC, .ref oP, .ref oH, .ref oK, .ref oG, .ref oR, .ref oQ, .ref oW, .int fa])), (oC, .inr (2, [.ref o4, .ref o5])), (o4, .inr (10, [.ref a41, .ref a42, .ref a43, .int lt_2])), (a41, .inl (cI, 256, .inl ft1_2)), (a43, .inl (cI, 512, .inl ft3_2))]) (w1 := [(oW, .inr (1, [.ref oC, .ref oK, .ref nw, .ref w1, .ref w2, .ref w3, .ref o7, .ref o8, .ref o9, .ref w4, .ref w5, .ref w6, .ref w7, .int ke, .int tl, .int fsh_3, .int wi, .int ri, .int fm, .int lm]))]) hP hD [1] [0, 2, 3, 4, 5] rfl rfl (by decide +kernel) (by decide +kernel) hk1 hFc hP1 hD1
  clear hP hD hS hPc hDc hFc hk1 hz1 hvm ht hP1 hD1
  generalize H1 = H at hPn hSn ⊢
  have hP : va_P (dC, dI) vwCl [(oX, .inr (11, [.ref nT, .ref nL, .ref nM, .ref oC, .ref oP, .ref oH, .ref oK, .ref oG, .ref oR, .ref oQ, .ref oW, .int fa])), (oC, .inr (2, [.ref o4, .ref o5])), (o4, .inr (10, [.ref a41, .ref a42, .ref a43, .int lt_2])), (a41, .inl (cI, 256, .inl ft1_2)), (a43, .inl (cI, 512, .inl ft3_2)), (oW, .inr (1, [.ref oC, .ref oK, .ref nw, .ref w1, .ref w2, .ref w3, .ref o7, .ref o8, .ref o9, .ref w4, .ref w5, .ref w6, .ref w7, .int ke, .int tl, .int fsh_3, .int wi, .int ri, .int fm, .int lm]))] H := hPn
  have hD : va_D A [(oX, .inr (11, [.ref nT, .ref nL, .ref nM, .ref oC, .ref oP, .ref oH, .ref oK, .ref oG, .ref oR, .ref oQ, .ref oW, .int fa])), (oC, .inr (2, [.ref o4, .ref o5])), (o4, .inr (10, [.ref a41, .ref a42, .ref a43, .int lt_2])), (a41, .inl (cI, 256, .inl ft1_2)), (a43, .inl (cI, 512, .inl ft3_2)), (oW, .inr (1, [.ref oC, .ref oK, .ref nw, .ref w1, .ref w2, .ref w3, .ref o7, .ref o8, .ref o9, .ref w4, .ref w5, .ref w6, .ref w7, .int ke, .int tl, .int fsh_3, .int wi, .int ri, .int fm, .int lm]))] := hDn
  have hS := hSn
  clear hPn hDn hSn
  refine lv_iconst (v := 1) hx hb dX11_blank_26 (by decide) ?_
  have hP9 := hP.sub (ws' := [(oX, .inr (11, [.ref nT, .ref nL, .ref nM, .ref oC, .ref oP, .ref oH, .ref oK, .ref oG, .ref oR, .ref oQ, .ref oW, .int fa])), (oC, .inr (2, [.ref o4, .ref o5])), (o4, .inr (10, [.ref a41, .ref a42, .ref a43, .int lt_2])), (a41, .inl (cI, 256, .inl ft1_2)), (a43, .inl (cI, 512, .inl ft3_2)), (oW, .inr (1, [.ref oC, .ref oK, .ref nw, .ref w1, .ref w2, .ref w3, .ref o7, .ref o8, .ref o9, .ref w4, .ref w5, .ref w6, .ref w7, .int ke, .int tl, .int fsh_3, .int wi, .int ri, .int fm, .int lm]))]) [0, 1, 2, 3, 4, 5] rfl
  have hD9 := hD.sub (ws' := [(oX, .inr (11, [.ref nT, .ref nL, .ref nM, .ref oC, .ref oP, .ref oH, .ref oK, .ref oG, .ref oR, .ref oQ, .ref oW, .int fa])), (oC, .inr (2, [.ref o4, .ref o5])), (o4, .inr (10, [.ref a41, .ref a42, .ref a43, .int lt_2])), (a41, .inl (cI, 256, .inl ft1_2)), (a43, .inl (cI, 512, .inl ft3_2)), (oW, .inr (1, [.ref oC, .ref oK, .ref nw, .ref w1, .ref w2, .ref w3, .ref o7, .ref o8, .ref o9, .ref w4, .ref w5, .ref w6, .ref w7, .int ke, .int tl, .int fsh_3, .int wi, .int ri, .int fm, .int lm]))]) [0, 1, 2, 3, 4, 5] (by decide +kernel) rfl
  rw [hQQ]
  exact W.zret (v := 1) (ty := .boolean) hx hb hr (rfl) (fun t ht hW => ⟨⟨1, 1, rfl, rfl, ⟨fsh_3, lt_2, ft1_2, ft3_2, by rw [ht]; exact hP9, hD9, hf3_0, rfl, hf2_0, hf2_1, hf2_2, hf3_1⟩⟩, hS.F ht⟩) hS.2.2 dX11_blank_27

set_option maxHeartbeats 40000000 in
set_option maxRecDepth 100000 in
theorem f_span_5 (l : Launch) (dC : Nat → ClassId) (dI : Nat → Nat → Nat) (cI cS : ClassId) (sz : Nat) (oX : Nat) (nT : Nat) (nL : Nat) (nM : Nat) (oC : Nat) (oP : Nat) (oH : Nat) (oK : Nat) (oG : Nat) (oR : Nat) (oQ : Nat) (oW : Nat) (o4 : Nat) (o5 : Nat) (a51 : Nat) (a52 : Nat) (a53 : Nat) (nw : Nat) (w1 : Nat) (w2 : Nat) (w3 : Nat) (o7 : Nat) (o8 : Nat) (o9 : Nat) (w4 : Nat) (w5 : Nat) (w6 : Nat) (w7 : Nat) (fa : Int32) (l5 : Int32) (f51 : Nat → Int32) (f52 : Nat → Int32) (f53 : Nat → Int32) (ke : Int32) (tl : Int32) (fsh : Int32) (wi : Int32) (ri : Int32) (fm : Int32) (lm : Int32) (cd : Int32) (fr : Int32) (n : Int32) (le : Int32) (sp : Int32) (g_ke : 0 ≤ ke.toInt ∧ ke.toInt ≤ 200) (g_fsh : 0 ≤ fsh.toInt ∧ fsh.toInt ≤ 1) (g_fm : -1 ≤ fm.toInt ∧ fm.toInt ≤ 800) (g_lm : -1 ≤ lm.toInt ∧ lm.toInt ≤ 800) (hcd : cd.toInt = 5) (hT : HT 512 511 hsT f52 f53) (hoo : occ f53 512 ≤ occ f51 256) : Met l yX11_span wsX11_span ({ frames := 3, cells := 0, slots := 0, locals := 73 } : Room) (va_Pc [.ref oX, .int cd, .int fr, .int n, .int le, .int sp] (fun U => U.heap.size = sz ∧ va_P (dC, dI) vwCl [(oX, .inr (11, [.ref nT, .ref nL, .ref nM, .ref oC, .ref oP, .ref oH, .ref oK, .ref oG, .ref oR, .ref oQ, .ref oW, .int fa])), (oC, .inr (2, [.ref o4, .ref o5])), (o5, .inr (10, [.ref a51, .ref a52, .ref a53, .int l5])), (a51, .inl (cI, 256, .inl f51)), (a52, .inl (cI, 512, .inl f52)), (a53, .inl (cI, 512, .inl f53)), (oW, .inr (1, [.ref oC, .ref oK, .ref nw, .ref w1, .ref w2, .ref w3, .ref o7, .ref o8, .ref o9, .ref w4, .ref w5, .ref w6, .ref w7, .int ke, .int tl, .int fsh, .int wi, .int ri, .int fm, .int lm]))] U.heap ∧ va_K (dC, dI) vwCl [(cI, .int), (cS, .short)] U ∧ va_D (fun _ => True) [(oX, .inr (11, [.ref nT, .ref nL, .ref nM, .ref oC, .ref oP, .ref oH, .ref oK, .ref oG, .ref oR, .ref oQ, .ref oW, .int fa])), (oC, .inr (2, [.ref o4, .ref o5])), (o5, .inr (10, [.ref a51, .ref a52, .ref a53, .int l5])), (a51, .inl (cI, 256, .inl f51)), (a52, .inl (cI, 512, .inl f52)), (a53, .inl (cI, 512, .inl f53)), (oW, .inr (1, [.ref oC, .ref oK, .ref nw, .ref w1, .ref w2, .ref w3, .ref o7, .ref o8, .ref o9, .ref w4, .ref w5, .ref w6, .ref w7, .int ke, .int tl, .int fsh, .int wi, .int ri, .int fm, .int lm]))] ∧ va_Nw (.methodLinkNest RX10 35 yX11_isLetter "TextMender") U)) (va_Qi (fun (r : Int32) (u : Int32) => r = u) (fun (r : Int32) t => ∃ (fa' : Int32) (fsh' : Int32) (l5' : Int32) (f51' : Nat → Int32) (f52' : Nat → Int32) (f53' : Nat → Int32), va_P (dC, dI) vwCl [(oX, .inr (11, [.ref nT, .ref nL, .ref nM, .ref oC, .ref oP, .ref oH, .ref oK, .ref oG, .ref oR, .ref oQ, .ref oW, .int fa'])), (oC, .inr (2, [.ref o4, .ref o5])), (o5, .inr (10, [.ref a51, .ref a52, .ref a53, .int l5'])), (a51, .inl (cI, 256, .inl f51')), (a52, .inl (cI, 512, .inl f52')), (a53, .inl (cI, 512, .inl f53')), (oW, .inr (1, [.ref oC, .ref oK, .ref nw, .ref w1, .ref w2, .ref w3, .ref o7, .ref o8, .ref o9, .ref w4, .ref w5, .ref w6, .ref w7, .int ke, .int tl, .int fsh', .int wi, .int ri, .int fm, .int lm]))] t.heap ∧ va_D (va_A [(oX, .inr (11, [.ref nT, .ref nL, .ref nM, .ref oC, .ref oP, .ref oH, .ref oK, .ref oG, .ref oR, .ref oQ, .ref oW, .int fa])), (oC, .inr (2, [.ref o4, .ref o5])), (o5, .inr (10, [.ref a51, .ref a52, .ref a53, .int l5])), (a51, .inl (cI, 256, .inl f51)), (a52, .inl (cI, 512, .inl f52)), (a53, .inl (cI, 512, .inl f53)), (oW, .inr (1, [.ref oC, .ref oK, .ref nw, .ref w1, .ref w2, .ref w3, .ref o7, .ref o8, .ref o9, .ref w4, .ref w5, .ref w6, .ref w7, .int ke, .int tl, .int fsh, .int wi, .int ri, .int fm, .int lm]))] sz) [(oX, .inr (11, [.ref nT, .ref nL, .ref nM, .ref oC, .ref oP, .ref oH, .ref oK, .ref oG, .ref oR, .ref oQ, .ref oW, .int fa'])), (oC, .inr (2, [.ref o4, .ref o5])), (o5, .inr (10, [.ref a51, .ref a52, .ref a53, .int l5'])), (a51, .inl (cI, 256, .inl f51')), (a52, .inl (cI, 512, .inl f52')), (a53, .inl (cI, 512, .inl f53')), (oW, .inr (1, [.ref oC, .ref oK, .ref nw, .ref w1, .ref w2, .ref w3, .ref o7, .ref o8, .ref o9, .ref w4, .ref w5, .ref w6, .ref w7, .int ke, .int tl, .int fsh', .int wi, .int ri, .int fm, .int lm]))] ∧ (0 ≤ fsh'.toInt ∧ fsh'.toInt ≤ 1) ∧ (F_spanC r fr n le sp l5 l5' f51 f51' f52 f52' f53 f53') ∧ (F_fsP (CT fr n le sp (fun k => f51 k = -1) (nTd f52 f53)) fsh fsh')) (va_A [(oX, .inr (11, [.ref nT, .ref nL, .ref nM, .ref oC, .ref oP, .ref oH, .ref oK, .ref oG, .ref oR, .ref oQ, .ref oW, .int fa])), (oC, .inr (2, [.ref o4, .ref o5])), (o5, .inr (10, [.ref a51, .ref a52, .ref a53, .int l5])), (a51, .inl (cI, 256, .inl f51)), (a52, .inl (cI, 512, .inl f52)), (a53, .inl (cI, 512, .inl f53)), (oW, .inr (1, [.ref oC, .ref oK, .ref nw, .ref w1, .ref w2, .ref w3, .ref o7, .ref o8, .ref o9, .ref w4, .ref w5, .ref w6, .ref w7, .int ke, .int tl, .int fsh, .int wi, .int ri, .int fm, .int lm]))] sz)) 0 0 (va_A [(oX, .inr (11, [.ref nT, .ref nL, .ref nM, .ref oC, .ref oP, .ref oH, .ref oK, .ref oG, .ref oR, .ref oQ, .ref oW, .int fa])), (oC, .inr (2, [.ref o4, .ref o5])), (o5, .inr (10, [.ref a51, .ref a52, .ref a53, .int l5])), (a51, .inl (cI, 256, .inl f51)), (a52, .inl (cI, 512, .inl f52)), (a53, .inl (cI, 512, .inl f53)), (oW, .inr (1, [.ref oC, .ref oK, .ref nw, .ref w1, .ref w2, .ref w3, .ref o7, .ref o8, .ref o9, .ref w4, .ref w5, .ref w6, .ref w7, .int ke, .int tl, .int fsh, .int wi, .int ri, .int fm, .int lm]))] sz) := by
  refine Met.ofW (cc := cX11_span) (maxL := 8) (ret := (some .int)) (by decide) rfl ?_
  intro p e s m args below meth c s₁ B hml hv
  obtain ⟨rfl, hsz, hP, hK, hD0, hN35⟩ := hv
  have hx := B.exec
  have hb := B.bytes
  have hr := B.returns
  have hts := atoms_spec (ws := wsX11_span) B.pre
  have hown : s.vm.findClass RX11 = some m.cls := findClass_of_methodNamed B.named
  have hlocks := B.notSynchronized
  have in_X11 : ∀ w ∈ wsX110, w ∈ wsX11_span := fun _ h => List.mem_cons_of_mem _ (List.mem_append_left _ (List.mem_append_left _ (List.mem_append_left _ (List.mem_append_right _ (h)))))
  subst hsz
  have hD := hD0.self (sz := s.heap.size)
  generalize hAe : va_A [(oX, .inr (11, [.ref nT, .ref nL, .ref nM, .ref oC, .ref oP, .ref oH, .ref oK, .ref oG, .ref oR, .ref oQ, .ref oW, .int fa])), (oC, .inr (2, [.ref o4, .ref o5])), (o5, .inr (10, [.ref a51, .ref a52, .ref a53, .int l5])), (a51, .inl (cI, 256, .inl f51)), (a52, .inl (cI, 512, .inl f52)), (a53, .inl (cI, 512, .inl f53)), (oW, .inr (1, [.ref oC, .ref oK, .ref nw, .ref w1, .ref w2, .ref w3, .ref o7, .ref o8, .ref o9, .ref w4, .ref w5, .ref w6, .ref w7, .int ke, .int tl, .int fsh, .int wi, .int ri, .int fm, .int lm]))] s.heap.size = A at hD ⊢
  have hA : ∀ q : Nat, s.heap.size ≤ q → A q := fun q h => by rw [← hAe]; exact Or.inr h
  have hS : va_S A s.heap s.heap [] := va_S.rf
  have hP : va_P (dC, dI) vwCl [(oX, .inr (11, [.ref nT, .ref nL, .ref nM, .ref oC, .ref oP, .ref oH, .ref oK, .ref oG, .ref oR, .ref oQ, .ref oW, .int fa])), (oC, .inr (2, [.ref o4, .ref o5])), (o5, .inr (10, [.ref a51, .ref a52, .ref a53, .int l5])), (a51, .inl (cI, 256, .inl f51)), (a52, .inl (cI, 512, .inl f52)), (a53, .inl (cI, 512, .inl f53)), (oW, .inr (1, [.ref oC, .ref oK, .ref nw, .ref w1, .ref w2, .ref w3, .ref o7, .ref o8, .ref o9, .ref w4, .ref w5, .ref w6, .ref w7, .int ke, .int tl, .int fsh, .int wi, .int ri, .int fm, .int lm]))] s.heap := hP
  have hl := lv_entry ([.ref oX, .int cd, .int fr, .int n, .int le, .int sp]) (n := 8) (Nat.le_of_ble_eq_true rfl)
  rw [lg_entry_eq]
  generalize (lg_sl ([.ref oX, .int cd, .int fr, .int n, .int le, .int sp]) ++ List.replicate (8 - (lg_sl ([.ref oX, .int cd, .int fr, .int n, .int le, .int sp])).length) Slot.unset).toArray = ls at hl ⊢
  have hl : lv_has ls 8 [(0, .ref oX), (1, .int cd), (2, .int fr), (3, .int n), (4, .int le), (5, .int sp)] := hl
  obtain ⟨QQ, hQQ⟩ : ∃ QQ : Array Value → State → Outcome → State → Prop, QQ = va_Qi (fun (r : Int32) (u : Int32) => r = u) (fun (r : Int32) t => ∃ (fa' : Int32) (fsh' : Int32) (l5' : Int32) (f51' : Nat → Int32) (f52' : Nat → Int32) (f53' : Nat → Int32), va_P (dC, dI) vwCl [(oX, .inr (11, [.ref nT, .ref nL, .ref nM, .ref oC, .ref oP, .ref oH, .ref oK, .ref oG, .ref oR, .ref oQ, .ref oW, .int fa'])), (oC, .inr (2, [.ref o4, .ref o5])), (o5, .inr (10, [.ref a51, .ref a52, .ref a53, .int l5'])), (a51, .inl (cI, 256, .inl f51')), (a52, .inl (cI, 512, .inl f52')), (a53, .inl (cI, 512, .inl f53')), (oW, .inr (1, [.ref oC, .ref oK, .ref nw, .ref w1, .ref w2, .ref w3, .ref o7, .ref o8, .ref o9, .ref w4, .ref w5, .ref w6, .ref w7, .int ke, .int tl, .int fsh', .int wi, .int ri, .int fm, .int lm]))] t.heap ∧ va_D A [(oX, .inr (11, [.ref nT, .ref nL, .ref nM, .ref oC, .ref oP, .ref oH, .ref oK, .ref oG, .ref oR, .ref oQ, .ref oW, .int fa'])), (oC, .inr (2, [.ref o4, .ref o5])), (o5, .inr (10, [.ref a51, .ref a52, .ref a53, .int l5'])), (a51, .inl (cI, 256, .inl f51')), (a52, .inl (cI, 512, .inl f52')), (a53, .inl (cI, 512, .inl f53')), (oW, .inr (1, [.ref oC, .ref oK, .ref nw, .ref w1, .ref w2, .ref w3, .ref o7, .ref o8, .ref o9, .ref w4, .ref w5, .ref w6, .ref w7, .int ke, .int tl, .int fsh', .int wi, .int ri, .int fm, .int lm]))] ∧ (0 ≤ fsh'.toInt ∧ fsh'.toInt ≤ 1) ∧ (F_spanC r fr n le sp l5 l5' f51 f51' f52 f52' f53 f53') ∧ (F_fsP (CT fr n le sp (fun k => f51 k = -1) (nTd f52 f53)) fsh fsh')) A := ⟨_, rfl⟩
  rw [← hQQ]
  refine lv_aload_n hx hb dX11_span_0 rfl (lv_at hl 0 rfl) ?_
  refine lv_iconst (v := (-1)) hx hb dX11_span_1 (by decide) ?_
  refine va_put (D := (dC, dI)) (ci := 11) (v := .int (-1)) (ty := .int) (C := RX11) (T := TX11) (N := 12) hx hb hts in_X11 tyX11 tyX11_ok nmX11 hown hK hP hD hS 0 rfl rfl 11 (by decide) (hts (.fieldLink RX11 90 "TextMender" "fault" "I") (List.mem_of_getElem? (i := 1) rfl)) (fun _ h9 => h9) rfl (by decide +kernel) rfl rfl (Nat.le_of_ble_eq_true rfl) dX11_span_2 (fun H locs hPn hDn hSn => ?_)
  clear hP hD hS
  have hP : va_P (dC, dI) vwCl [(oX, .inr (11, [.ref nT, .ref nL, .ref nM, .ref oC, .ref oP, .ref oH, .ref oK, .ref oG, .ref oR, .ref oQ, .ref oW, .int (-1)])), (oC, .inr (2, [.ref o4, .ref o5])), (o5, .inr (10, [.ref a51, .ref a52, .ref a53, .int l5])), (a51, .inl (cI, 256, .inl f51)), (a52, .inl (cI, 512, .inl f52)), (a53, .inl (cI, 512, .inl f53)), (oW, .inr (1, [.ref oC, .ref oK, .ref nw, .ref w1, .ref w2, .ref w3, .ref o7, .ref o8, .ref o9, .ref w4, .ref w5, .ref w6, .ref w7, .int ke, .int tl, .int fsh, .int wi, .int ri, .int fm, .int lm]))] H := hPn
  have hD : va_D A [(oX, .inr (11, [.ref nT, .ref nL, .ref nM, .ref oC, .ref oP, .ref oH, .ref oK, .ref oG, .ref oR, .ref oQ, .ref oW, .int (-1)])), (oC, .inr (2, [.ref o4, .ref o5])), (o5, .inr (10, [.ref a51, .ref a52, .ref a53, .int l5])), (a51, .inl (cI, 256, .inl f51)), (a52, .inl (cI, 512, .inl f52)), (a53, .inl (cI, 512, .inl f53)), (oW, .inr (1, [.ref oC, .ref oK, .ref nw, .ref w1, .ref w2, .ref w3, .ref o7, .ref o8, .ref o9, .ref w4, .ref w5, .ref w6, .ref w7, .int ke, .int tl, .int fsh, .int wi, .int ri, .int fm, .int lm]))] := hDn
  have hS := hSn
  clear hPn hDn hSn
  refine lv_aload_n hx hb dX11_span_5 rfl (lv_at hl 0 rfl) ?_
  refine va_get (D := (dC, dI)) (ci := 11) (v := .ref oC) (C := RX11) (T := TX11) (N := 12) hx hb hts in_X11 hown hK hP 0 rfl rfl 3 (by decide) (hts (.fieldLink RX11 40 "TextMender" "codes" "LTextMender$Codes;") (List.mem_of_getElem? (i := 2) rfl)) (fun _ h9 => h9) rfl dX11_span_6 ?_
  refine lv_iload_n hx hb dX11_span_9 rfl (lv_at hl 1 rfl) ?_
  have hPc := hP.sub (ws' := [(oC, .inr (2, [.ref o4, .ref o5]))]) [1] rfl
  have hDc := hD.sub (ws' := [(oC, .inr (2, [.ref o4, .ref o5]))]) [1] (by decide +kernel) rfl
  have hFc := va_free (wc := [(oC, .inr (2, [.ref o4, .ref o5]))]) hD hS hA [1] rfl
  refine va_callr (va_runV (As := [.int cd]) (rest := []) ⟨hx, hb, hml, hown, hts⟩ (m_X2_toldCode_5 l dC dI cI cS H.size oC o4 o5 cd (by omega)) (cwV 1 hts gX11_span_X2_toldCode rfl rfl rfl (by decide +kernel) ⟨Nat.le_of_ble_eq_true rfl, Nat.le_of_ble_eq_true rfl⟩) ⟨fun a U g mk q => by obtain ⟨q0, q1, qP, qK, qD⟩ := q; exact ⟨q0, q1, qP, va_K.moved (u := U) (U := U.calling g mk a) (Vm.Alike.refl U.vm) qK, qD⟩, va_recv hK hPc (ci := 2) (q0 := 0) rfl rfl, fun U hU hW => ⟨rfl, by rw [hU], by rw [hU]; exact hPc, va_K.moved hW.alike hK, hDc.weaken (fun _ _ _ _ => trivial)⟩⟩ rfl rfl hl.1 rfl (lv_room (Nat.le_of_ble_eq_true rfl)) dX11_span_10 ⟨Nat.le_of_ble_eq_true rfl, Nat.le_of_ble_eq_true rfl⟩) hS (fun q _ h => hFc q h) hFc (fun u r_1 t H1 locs ht hvm hw hB hz1 hk1 hSn => ?_)
  obtain ⟨hra, hP1, hD1⟩ := hB
  rw [hra]
  rw [ht] at hP1
  obtain ⟨hPn, hDn⟩ := va_join (wr := [(oX, .inr (11, [.ref nT, .ref nL, .ref nM, .ref oC, .ref oP, .ref oH, .ref oK, .ref oG, .ref oR, .ref oQ, .ref oW, .int (-1)])), (o5, .inr (10, [.ref a51, .ref a52, .ref a53, .int l5])), (a51, .inl (cI, 256, .inl f51)), (a52, .inl (cI, 512, .inl f52)), (a53, .inl (cI, 512, .inl f53)), (oW, .inr (1, [.ref oC, .ref oK, .ref nw, .ref w1, .ref w2, .ref w3, .ref o7, .ref o8, .ref o9, .ref w4, .ref w5, .ref w6, .ref w7, .int ke, .int tl, .int fsh, .int wi, .int ri, .int fm, .int lm]))]) (w1 := [(oC, .inr (2, [.ref o4, .ref o5]))]) hP hD [1] [0, 2, 3, 4, 5, 6] rfl rfl (by decide +kernel) (by decide +kernel) hk1 hFc hP1 hD1
  clear hP hD hS hPc hDc hFc hk1 hz1 hvm ht hP1 hD1
  generalize H1 = H at hPn hSn ⊢
  have hP : va_P (dC, dI) vwCl [(oX, .inr (11, [.ref nT, .ref nL, .ref nM, .ref oC, .ref oP, .ref oH, .ref oK, .ref oG, .ref oR, .ref oQ, .ref oW, .int (-1)])), (o5, .inr (10, [.ref a51, .ref a52, .ref a53, .int l5])), (a51, .inl (cI, 256, .inl f51)), (a52, .inl (cI, 512, .inl f52)), (a53, .inl (cI, 512, .inl f53)), (oW, .inr (1, [.ref oC, .ref oK, .ref nw, .ref w1, .ref w2, .ref w3, .ref o7, .ref o8, .ref o9, .ref w4, .ref w5, .ref w6, .ref w7, .int ke, .int tl, .int fsh, .int wi, .int ri, .int fm, .int lm])), (oC, .inr (2, [.ref o4, .ref o5]))] H := hPn
  have hD : va_D A [(oX, .inr (11, [.ref nT, .ref nL, .ref nM, .ref oC, .ref oP, .ref oH, .ref oK, .ref oG, .ref oR, .ref oQ, .ref oW, .int (-1)])), (o5, .inr (10, [.ref a51, .ref a52, .ref a53, .int l5])), (a51, .inl (cI, 256, .inl f51)), (a52, .inl (cI, 512, .inl f52)), (a53, .inl (cI, 512, .inl f53)), (oW, .inr (1, [.ref oC, .ref oK, .ref nw, .ref w1, .ref w2, .ref w3, .ref o7, .ref o8, .ref o9, .ref w4, .ref w5, .ref w6, .ref w7, .int ke, .int tl, .int fsh, .int wi, .int ri, .int fm, .int lm])), (oC, .inr (2, [.ref o4, .ref o5]))] := hDn
  have hS := hSn
  clear hPn hDn hSn
  refine lv_astore (lv' := [(6, .ref o5), (0, .ref oX), (1, .int cd), (2, .int fr), (3, .int n), (4, .int le), (5, .int sp)]) hx hb dX11_span_13 hl (by decide) rfl (fun ls hl => ?_)
  refine lv_aload hx hb dX11_span_15 (lv_at hl 0 rfl) ?_
  refine lv_ifnull hx hb dX11_span_17 ?_
  refine lv_aload hx hb dX11_span_20 (lv_at hl 0 rfl) ?_
  refine lv_iload_n hx hb dX11_span_22 rfl (lv_at hl 3 rfl) ?_
  refine lv_iload_n hx hb dX11_span_23 rfl (lv_at hl 4 rfl) ?_
  refine lv_iload hx hb dX11_span_24 (lv_at hl 5 rfl) ?_
  refine lv_iload hx hb dX11_span_26 (lv_at hl 6 rfl) ?_
  have hPc := hP.sub (ws' := [(o5, .inr (10, [.ref a51, .ref a52, .ref a53, .int l5])), (a51, .inl (cI, 256, .inl f51)), (a52, .inl (cI, 512, .inl f52)), (a53, .inl (cI, 512, .inl f53))]) [1, 2, 3, 4] rfl
  have hDc := hD.sub (ws' := [(o5, .inr (10, [.ref a51, .ref a52, .ref a53, .int l5])), (a51, .inl (cI, 256, .inl f51)), (a52, .inl (cI, 512, .inl f52)), (a53, .inl (cI, 512, .inl f53))]) [1, 2, 3, 4] (by decide +kernel) rfl
  have hFc := va_free (wc := [(o5, .inr (10, [.ref a51, .ref a52, .ref a53, .int l5])), (a51, .inl (cI, 256, .inl f51)), (a52, .inl (cI, 512, .inl f52)), (a53, .inl (cI, 512, .inl f53))]) hD hS hA [1, 2, 3, 4] rfl
  refine va_calli (va_runV (As := [.int fr, .int n, .int le, .int sp]) (rest := []) ⟨hx, hb, hml, hown, hts⟩ (f_X10_canTake l dC dI cI cS H.size o5 a51 a52 a53 l5 f51 f52 f53 fr n le sp (hT) (occ_511 hoo)) (cwV 4 hts gX11_span_X10_canTake rfl rfl rfl (by decide +kernel) ⟨Nat.le_of_ble_eq_true rfl, Nat.le_of_ble_eq_true rfl⟩) ⟨fun a U g mk q => by obtain ⟨q0, q1, qP, qK, qD, qN0⟩ := q; exact ⟨q0, q1, qP, va_K.moved (u := U) (U := U.calling g mk a) (Vm.Alike.refl U.vm) qK, qD, va_Nw.same rfl rfl qN0⟩, va_recv hK hPc (ci := 10) (q0 := 0) rfl rfl, fun U hU hW => ⟨rfl, by rw [hU], by rw [hU]; exact hPc, va_K.moved hW.alike hK, hDc.weaken (fun _ _ _ _ => trivial), va_Nw.warmM hW hN35⟩⟩ rfl rfl hl.1 rfl (lv_room (Nat.le_of_ble_eq_true rfl)) dX11_span_28 ⟨Nat.le_of_ble_eq_true rfl, Nat.le_of_ble_eq_true rfl⟩) hS (fun q _ h => hFc q h) hFc (fun r_2 u t H1 locs ht hvm hw hB hz1 hk1 hSn => ?_)
  subst hw
  obtain ⟨hP1, hD1, hf2_0, hf2_1⟩ := hB
  rw [ht] at hP1
  obtain ⟨hPn, hDn⟩ := va_join (wr := [(oX, .inr (11, [.ref nT, .ref nL, .ref nM, .ref oC, .ref oP, .ref oH, .ref oK, .ref oG, .ref oR, .ref oQ, .ref oW, .int (-1)])), (oW, .inr (1, [.ref oC, .ref oK, .ref nw, .ref w1, .ref w2, .ref w3, .ref o7, .ref o8, .ref o9, .ref w4, .ref w5, .ref w6, .ref w7, .int ke, .int tl, .int fsh, .int wi, .int ri, .int fm, .int lm])), (oC, .inr (2, [.ref o4, .ref o5]))]) (w1 := [(o5, .inr (10, [.ref a51, .ref a52, .ref a53, .int l5])), (a51, .inl (cI, 256, .inl f51)), (a52, .inl (cI, 512, .inl f52)), (a53, .inl (cI, 512, .inl f53))]) hP hD [1, 2, 3, 4] [0, 5, 6] rfl rfl (by decide +kernel) (by decide +kernel) hk1 hFc hP1 hD1
  clear hP hD hS hPc hDc hFc hk1 hz1 hvm ht hP1 hD1
  generalize H1 = H at hPn hSn ⊢
  have hP : va_P (dC, dI) vwCl [(oX, .inr (11, [.ref nT, .ref nL, .ref nM, .ref oC, .ref oP, .ref oH, .ref oK, .ref oG, .ref oR, .ref oQ, .ref oW, .int (-1)])), (oW, .inr (1, [.ref oC, .ref oK, .ref nw, .ref w1, .ref w2, .ref w3, .ref o7, .ref o8, .ref o9, .ref w4, .ref w5, .ref w6, .ref w7, .int ke, .int tl, .int fsh, .int wi, .int ri, .int fm, .int lm])), (oC, .inr (2, [.ref o4, .ref o5])), (o5, .inr (10, [.ref a51, .ref a52, .ref a53, .int l5])), (a51, .inl (cI, 256, .inl f51)), (a52, .inl (cI, 512, .inl f52)), (a53, .inl (cI, 512, .inl f53))] H := hPn
  have hD : va_D A [(oX, .inr (11, [.ref nT, .ref nL, .ref nM, .ref oC, .ref oP, .ref oH, .ref oK, .ref oG, .ref oR, .ref oQ, .ref oW, .int (-1)])), (oW, .inr (1, [.ref oC, .ref oK, .ref nw, .ref w1, .ref w2, .ref w3, .ref o7, .ref o8, .ref o9, .ref w4, .ref w5, .ref w6, .ref w7, .int ke, .int tl, .int fsh, .int wi, .int ri, .int fm, .int lm])), (oC, .inr (2, [.ref o4, .ref o5])), (o5, .inr (10, [.ref a51, .ref a52, .ref a53, .int l5])), (a51, .inl (cI, 256, .inl f51)), (a52, .inl (cI, 512, .inl f52)), (a53, .inl (cI, 512, .inl f53))] := hDn
  have hS := hSn
  clear hPn hDn hSn
  refine lv_if_ne (tgt := 36) hx hb dX11_span_31 (by decide) (fun c_3 => ?_) (fun c_3 => ?_)
  · have tc_3 : ¬ r_2.toInt = 0 := v_ne c_3
    refine lv_iconst (v := 0) hx hb dX11_span_36 (by decide) ?_
    refine lv_istore (lv' := [(7, .int 0), (6, .ref o5), (0, .ref oX), (1, .int cd), (2, .int fr), (3, .int n), (4, .int le), (5, .int sp)]) hx hb dX11_span_37 hl (by decide) rfl (fun ls hl => ?_)
    have hCT := F_ct_1 hf2_1 (by omega)
    obtain ⟨hb1, hb2, hb3, hb4, hb5, hb6, hb7, hb8⟩ := hCT.1
    have LOOP_39 : ∀ (k_39 : Nat) (i : Int32) (l5a : Int32) (f51a : Nat → Int32) (f52a : Nat → Int32) (f53a : Nat → Int32) (H : Heap) (locs : List Loc) (ls : Array Slot), MSd (256 - i.toInt : Int) k_39 → (0 ≤ i.toInt ∧ i.toInt ≤ 256) → (i.toInt ≤ n.toInt) → (SPC i l5 l5a fr le sp f51 f52 f53 f51a f52a f53a) → va_P (dC, dI) vwCl [(oX, .inr (11, [.ref nT, .ref nL, .ref nM, .ref oC, .ref oP, .ref oH, .ref oK, .ref oG, .ref oR, .ref oQ, .ref oW, .int (-1)])), (oW, .inr (1, [.ref oC, .ref oK, .ref nw, .ref w1, .ref w2, .ref w3, .ref o7, .ref o8, .ref o9, .ref w4, .ref w5, .ref w6, .ref w7, .int ke, .int tl, .int fsh, .int wi, .int ri, .int fm, .int lm])), (oC, .inr (2, [.ref o4, .ref o5])), (o5, .inr (10, [.ref a51, .ref a52, .ref a53, .int l5a])), (a51, .inl (cI, 256, .inl f51a)), (a52, .inl (cI, 512, .inl f52a)), (a53, .inl (cI, 512, .inl f53a))] H → va_D A [(oX, .inr (11, [.ref nT, .ref nL, .ref nM, .ref oC, .ref oP, .ref oH, .ref oK, .ref oG, .ref oR, .ref oQ, .ref oW, .int (-1)])), (oW, .inr (1, [.ref oC, .ref oK, .ref nw, .ref w1, .ref w2, .ref w3, .ref o7, .ref o8, .ref o9, .ref w4, .ref w5, .ref w6, .ref w7, .int ke, .int tl, .int fsh, .int wi, .int ri, .int fm, .int lm])), (oC, .inr (2, [.ref o4, .ref o5])), (o5, .inr (10, [.ref a51, .ref a52, .ref a53, .int l5a])), (a51, .inl (cI, 256, .inl f51a)), (a52, .inl (cI, 512, .inl f52a)), (a53, .inl (cI, 512, .inl f53a))] → va_S A s.heap H locs → lv_has ls 8 [(7, .int i), (6, .ref o5), (0, .ref oX), (1, .int cd), (2, .int fr), (3, .int n), (4, .int le), (5, .int sp)] → W p l e (headSpec wsX11_span ({ frames := 3, cells := 0, slots := 0, locals := 73 } : Room)).room s m ([.ref oX, .int cd, .int fr, .int n, .int le, .int sp] : List Value).toArray below meth c H locs 0 0 (MQ below QQ ([.ref oX, .int cd, .int fr, .int n, .int le, .int sp] : List Value).toArray s 0 0 A) (F0 m 39 ls []) := by
      clear hP hD hS hl
      intro k_39
      induction k_39 with
      | zero =>
        intro i l5a f51a f52a f53a H locs ls hm_39 g_i hin hsp hP hD hS hl
        exact ms_0 hm_39
      | succ k_39 ih_39 =>
        intro i l5a f51a f52a f53a H locs ls hm_39 g_i hin hsp hP hD hS hl
        refine lv_iload hx hb dX11_span_39 (lv_at hl 0 rfl) ?_
        refine lv_iload_n hx hb dX11_span_41 rfl (lv_at hl 5 rfl) ?_
        refine lv_icmp_ge (tgt := 68) hx hb dX11_span_42 (by decide) (fun c_4 => ?_) (fun c_4 => ?_)
        · have tc_4 : n.toInt ≤ i.toInt := v_le c_4
          refine lv_aload_n hx hb dX11_span_68 rfl (lv_at hl 2 rfl) ?_
          refine va_get (D := (dC, dI)) (ci := 11) (v := .ref oW) (C := RX11) (T := TX11) (N := 12) hx hb hts in_X11 hown hK hP 0 rfl rfl 10 (by decide) (hts (.fieldLink RX11 86 "TextMender" "choiceBook" "LTextMender$Choices;") (List.mem_of_getElem? (i := 3) rfl)) (fun _ h9 => h9) rfl dX11_span_69 ?_
          have hPc := hP.sub (ws' := [(oW, .inr (1, [.ref oC, .ref oK, .ref nw, .ref w1, .ref w2, .ref w3, .ref o7, .ref o8, .ref o9, .ref w4, .ref w5, .ref w6, .ref w7, .int ke, .int tl, .int fsh, .int wi, .int ri, .int fm, .int lm]))]) [1] rfl
          have hDc := hD.sub (ws' := [(oW, .inr (1, [.ref oC, .ref oK, .ref nw, .ref w1, .ref w2, .ref w3, .ref o7, .ref o8, .ref o9, .ref w4, .ref w5, .ref w6, .ref w7, .int ke, .int tl, .int fsh, .int wi, .int ri, .int fm, .int lm]))]) [1] (by decide +kernel) rfl
          have hFc := va_free (wc := [(oW, .inr (1, [.ref oC, .ref oK, .ref nw, .ref w1, .ref w2, .ref w3, .ref o7, .ref o8, .ref o9, .ref w4, .ref w5, .ref w6, .ref w7, .int ke, .int tl, .int fsh, .int wi, .int ri, .int fm, .int lm]))]) hD hS hA [1] rfl
          refine va_callv (va_runV (As := []) (rest := []) ⟨hx, hb, hml, hown, hts⟩ (f_X1_forgetFreshness l dC dI cI cS H.size oW oC oK nw w1 w2 w3 o7 o8 o9 w4 w5 w6 w7 ke tl fsh wi ri fm lm (g_ke) (g_fsh) (g_fm) (g_lm)) (cwV 0 hts gX11_span_X1_forgetFreshness rfl rfl rfl (by decide +kernel) ⟨Nat.le_of_ble_eq_true rfl, Nat.le_of_ble_eq_true rfl⟩) ⟨fun a U g mk q => by obtain ⟨q0, q1, qP, qK, qD⟩ := q; exact ⟨q0, q1, qP, va_K.moved (u := U) (U := U.calling g mk a) (Vm.Alike.refl U.vm) qK, qD⟩, va_recv hK hPc (ci := 1) (q0 := 0) rfl rfl, fun U hU hW => ⟨rfl, by rw [hU], by rw [hU]; exact hPc, va_K.moved hW.alike hK, hDc.weaken (fun _ _ _ _ => trivial)⟩⟩ rfl rfl hl.1 rfl (lv_room (Nat.le_of_ble_eq_true rfl)) dX11_span_72 ⟨Nat.le_of_ble_eq_true rfl, Nat.le_of_ble_eq_true rfl⟩) hS (fun q _ h => hFc q h) hFc (fun u t H1 locs ht hvm hw hB hz1 hk1 hSn => ?_)
          obtain ⟨fsh_5, hP1, hD1, hf5_0, hf5_1⟩ := hB
          rw [ht] at hP1
          obtain ⟨hPn, hDn⟩ := va_join (wr := [(oX, .inr (11, [.ref nT, .ref nL, .ref nM, .ref oC, .ref oP, .ref oH, .ref oK, .ref oG, .ref oR, .ref oQ, .ref oW, .int (-1)])), (oC, .inr (2, [.ref o4, .ref o5])), (o5, .inr (10, [.ref a51, .ref a52, .ref a53, .int l5a])), (a51, .inl (cI, 256, .inl f51a)), (a52, .inl (cI, 512, .inl f52a)), (a53, .inl (cI, 512, .inl f53a))]) (w1 := [(oW, .inr (1, [.ref oC, .ref oK, .ref nw, .ref w1, .ref w2, .ref w3, .ref o7, .ref o8, .ref o9, .ref w4, .ref w5, .ref w6, .ref w7, .int ke, .int tl, .int fsh_5, .int wi, .int ri, .int fm, .int lm]))]) hP hD [1] [0, 2, 3, 4, 5, 6] rfl rfl (by decide +kernel) (by decide +kernel) hk1 hFc hP1 hD1
          clear hP hD hS hPc hDc hFc hk1 hz1 hvm ht hP1 hD1
          generalize H1 = H at hPn hSn ⊢
          have hP : va_P (dC, dI) vwCl [(oX, .inr (11, [.ref nT, .ref nL, .ref nM, .ref oC, .ref oP, .ref oH, .ref oK, .ref oG, .ref oR, .ref oQ, .ref oW, .int (-1)])), (oC, .inr (2, [.ref o4, .ref o5])), (o5, .inr (10, [.ref a51, .ref a52, .ref a53, .int l5a])), (a51, .inl (cI, 256, .inl f51a)), (a52, .inl (cI, 512, .inl f52a)), (a53, .inl (cI, 512, .inl f53a)), (oW, .inr (1, [.ref oC, .ref oK, .ref nw, .ref w1, .ref w2, .ref w3, .ref o7, .ref o8, .ref o9, .ref w4, .ref w5, .ref w6, .ref w7, .int ke, .int tl, .int fsh_5, .int wi, .int ri, .int fm, .int lm]))] H := hPn
          have hD : va_D A [(oX, .inr (11, [.ref nT, .ref nL, .ref nM, .ref oC, .ref oP, .ref oH, .ref oK, .ref oG, .ref oR, .ref oQ, .ref oW, .int (-1)])), (oC, .inr (2, [.ref o4, .ref o5])), (o5, .inr (10, [.ref a51, .ref a52, .ref a53, .int l5a])), (a51, .inl (cI, 256, .inl f51a)), (a52, .inl (cI, 512, .inl f52a)), (a53, .inl (cI, 512, .inl f53a)), (oW, .inr (1, [.ref oC, .ref oK, .ref nw, .ref w1, .ref w2, .ref w3, .ref o7, .ref o8, .ref o9, .ref w4, .ref w5, .ref w6, .ref w7, .int ke, .int tl, .int fsh_5, .int wi, .int ri, .int fm, .int lm]))] := hDn
          have hS := hSn
          clear hPn hDn hSn
          refine lv_aload hx hb dX11_span_75 (lv_at hl 1 rfl) ?_
          have hPc := hP.sub (ws' := [(o5, .inr (10, [.ref a51, .ref a52, .ref a53, .int l5a]))]) [2] rfl
          have hDc := hD.sub (ws' := [(o5, .inr (10, [.ref a51, .ref a52, .ref a53, .int l5a]))]) [2] (by decide +kernel) rfl
          have hFc := va_free (wc := [(o5, .inr (10, [.ref a51, .ref a52, .ref a53, .int l5a]))]) hD hS hA [2] rfl
          refine va_calli (va_runV (As := []) (rest := []) ⟨hx, hb, hml, hown, hts⟩ (m_X10_length l dC dI cI cS H.size o5 a51 a52 a53 l5a ) (cwV 0 hts gX11_span_X10_length rfl rfl rfl (by decide +kernel) ⟨Nat.le_of_ble_eq_true rfl, Nat.le_of_ble_eq_true rfl⟩) ⟨fun a U g mk q => by obtain ⟨q0, q1, qP, qK, qD⟩ := q; exact ⟨q0, q1, qP, va_K.moved (u := U) (U := U.calling g mk a) (Vm.Alike.refl U.vm) qK, qD⟩, va_recv hK hPc (ci := 10) (q0 := 0) rfl rfl, fun U hU hW => ⟨rfl, by rw [hU], by rw [hU]; exact hPc, va_K.moved hW.alike hK, hDc.weaken (fun _ _ _ _ => trivial)⟩⟩ rfl rfl hl.1 rfl (lv_room (Nat.le_of_ble_eq_true rfl)) dX11_span_77 ⟨Nat.le_of_ble_eq_true rfl, Nat.le_of_ble_eq_true rfl⟩) hS (fun q _ h => hFc q h) hFc (fun r_6 u t H1 locs ht hvm hw hB hz1 hk1 hSn => ?_)
          subst hw
          obtain ⟨hP1, hD1, hf6_0⟩ := hB
          rw [ht] at hP1
          obtain ⟨hPn, hDn⟩ := va_join (wr := [(oX, .inr (11, [.ref nT, .ref nL, .ref nM, .ref oC, .ref oP, .ref oH, .ref oK, .ref oG, .ref oR, .ref oQ, .ref oW, .int (-1)])), (oC, .inr (2, [.ref o4, .ref o5])), (a51, .inl (cI, 256, .inl f51a)), (a52, .inl (cI, 512, .inl f52a)), (a53, .inl (cI, 512, .inl f53a)), (oW, .inr (1, [.ref oC, .ref oK, .ref nw, .ref w1, .ref w2, .ref w3, .ref o7, .ref o8, .ref o9, .ref w4, .ref w5, .ref w6, .ref w7, .int ke, .int tl, .int fsh_5, .int wi, .int ri, .int fm, .int lm]))]) (w1 := [(o5, .inr (10, [.ref a51, .ref a52, .ref a53, .int l5a]))]) hP hD [2] [0, 1, 3, 4, 5, 6] rfl rfl (by decide +kernel) (by decide +kernel) hk1 hFc hP1 hD1
          clear hP hD hS hPc hDc hFc hk1 hz1 hvm ht hP1 hD1
          generalize H1 = H at hPn hSn ⊢
          have hP : va_P (dC, dI) vwCl [(oX, .inr (11, [.ref nT, .ref nL, .ref nM, .ref oC, .ref oP, .ref oH, .ref oK, .ref oG, .ref oR, .ref oQ, .ref oW, .int (-1)])), (oC, .inr (2, [.ref o4, .ref o5])), (a51, .inl (cI, 256, .inl f51a)), (a52, .inl (cI, 512, .inl f52a)), (a53, .inl (cI, 512, .inl f53a)), (oW, .inr (1, [.ref oC, .ref oK, .ref nw, .ref w1, .ref w2, .ref w3, .ref o7, .ref o8, .ref o9, .ref w4, .ref w5, .ref w6, .ref w7, .int ke, .int tl, .int fsh_5, .int wi, .int ri, .int fm, .int lm])), (o5, .inr (10, [.ref a51, .ref a52, .ref a53, .int l5a]))] H := hPn
          have hD : va_D A [(oX, .inr (11, [.ref nT, .ref nL, .ref nM, .ref oC, .ref oP, .ref oH, .ref oK, .ref oG, .ref oR, .ref oQ, .ref oW, .int (-1)])), (oC, .inr (2, [.ref o4, .ref o5])), (a51, .inl (cI, 256, .inl f51a)), (a52, .inl (cI, 512, .inl f52a)), (a53, .inl (cI, 512, .inl f53a)), (oW, .inr (1, [.ref oC, .ref oK, .ref nw, .ref w1, .ref w2, .ref w3, .ref o7, .ref o8, .ref o9, .ref w4, .ref w5, .ref w6, .ref w7, .int ke, .int tl, .int fsh_5, .int wi, .int ri, .int fm, .int lm])), (o5, .inr (10, [.ref a51, .ref a52, .ref a53, .int l5a]))] := hDn
          have hS := hSn
          clear hPn hDn hSn
          rw [hf6_0]
          have hP9 := hP.sub (ws' := [(oX, .inr (11, [.ref nT, .ref nL, .ref nM, .ref oC, .ref oP, .ref oH, .ref oK, .ref oG, .ref oR, .ref oQ, .ref oW, .int (-1)])), (oC, .inr (2, [.ref o4, .ref o5])), (o5, .inr (10, [.ref a51, .ref a52, .ref a53, .int l5a])), (a51, .inl (cI, 256, .inl f51a)), (a52, .inl (cI, 512, .inl f52a)), (a53, .inl (cI, 512, .inl f53a)), (oW, .inr (1, [.ref oC, .ref oK, .ref nw, .ref w1, .ref w2, .ref w3, .ref o7, .ref o8, .ref o9, .ref w4, .ref w5, .ref w6, .ref w7, .int ke, .int tl, .int fsh_5, .int wi, .int ri, .int fm, .int lm]))]) [0, 1, 6, 2, 3, 4, 5] rfl
          have hD9 := hD.sub (ws' := [(oX, .inr (11, [.ref nT, .ref nL, .ref nM, .ref oC, .ref oP, .ref oH, .ref oK, .ref oG, .ref oR, .ref oQ, .ref oW, .int (-1)])), (oC, .inr (2, [.ref o4, .ref o5])), (o5, .inr (10, [.ref a51, .ref a52, .ref a53, .int l5a])), (a51, .inl (cI, 256, .inl f51a)), (a52, .inl (cI, 512, .inl f52a)), (a53, .inl (cI, 512, .inl f53a)), (oW, .inr (1, [.ref oC, .ref oK, .ref nw, .ref w1, .ref w2, .ref w3, .ref o7, .ref o8, .ref o9, .ref w4, .ref w5, .ref w6, .ref w7, .int ke, .int tl, .int fsh_5, .int wi, .int ri, .int fm, .int lm]))]) [0, 1, 6, 2, 3, 4, 5] (by decide +kernel) rfl
          rw [hQQ]
          exact W.iret (v := l5a) hx hb hr (fun t ht hW => ⟨⟨l5a, l5a, rfl, rfl, ⟨(-1), fsh_5, l5a, f51a, f52a, f53a, by rw [ht]; exact hP9, hD9, hf5_0, Or.inl ⟨hCT, SPC_n hsp (by omega), rfl⟩, Or.inl ⟨hCT, hf5_1⟩⟩⟩, hS.F ht⟩) hS.2.2 dX11_span_80
        · have tc_4 : i.toInt < n.toInt := v_nle c_4
          refine lv_aload hx hb dX11_span_45 (lv_at hl 1 rfl) ?_
          refine lv_iload_n hx hb dX11_span_47 rfl (lv_at hl 4 rfl) ?_
          refine lv_iload hx hb dX11_span_48 (lv_at hl 0 rfl) ?_
          refine lv_iadd hx hb dX11_span_50 ?_
          refine lv_topi (fun x_7 ex_7 => ?_)
          have tx_7 : x_7.toInt = fr.toInt + i.toInt := v_add ex_7 (by show -2147483648 ≤ fr.toInt + i.toInt; omega) (by show fr.toInt + i.toInt < 2147483648; omega)
          refine lv_iload hx hb dX11_span_51 (lv_at hl 6 rfl) ?_
          refine lv_iload hx hb dX11_span_53 (lv_at hl 0 rfl) ?_
          refine lv_iload hx hb dX11_span_55 (lv_at hl 7 rfl) ?_
          refine lv_imul hx hb dX11_span_57 ?_
          refine lv_topi (fun x_8 ex_8 => ?_)
          have rv8_1 := v_rng sp
          refine lv_iadd hx hb dX11_span_58 ?_
          refine lv_topi (fun x_9 ex_9 => ?_)
          have rv9_0 := v_rng le
          have rv9_1 := v_rng x_8
          have hPc := hP.sub (ws' := [(o5, .inr (10, [.ref a51, .ref a52, .ref a53, .int l5a])), (a51, .inl (cI, 256, .inl f51a)), (a52, .inl (cI, 512, .inl f52a)), (a53, .inl (cI, 512, .inl f53a))]) [3, 4, 5, 6] rfl
          have hDc := hD.sub (ws' := [(o5, .inr (10, [.ref a51, .ref a52, .ref a53, .int l5a])), (a51, .inl (cI, 256, .inl f51a)), (a52, .inl (cI, 512, .inl f52a)), (a53, .inl (cI, 512, .inl f53a))]) [3, 4, 5, 6] (by decide +kernel) rfl
          have hFc := va_free (wc := [(o5, .inr (10, [.ref a51, .ref a52, .ref a53, .int l5a])), (a51, .inl (cI, 256, .inl f51a)), (a52, .inl (cI, 512, .inl f52a)), (a53, .inl (cI, 512, .inl f53a))]) hD hS hA [3, 4, 5, 6] rfl
          refine va_callv (va_runV (As := [.int x_7, .int x_9]) (rest := []) ⟨hx, hb, hml, hown, hts⟩ (f_X10_tell l dC dI cI cS H.size o5 a51 a52 a53 l5a f51a f52a f53a x_7 x_9 (by omega) (hsp.2.1) (occ_511 hsp.2.2.1)) (cwV 2 hts gX11_span_X10_tell rfl rfl rfl (by decide +kernel) ⟨Nat.le_of_ble_eq_true rfl, Nat.le_of_ble_eq_true rfl⟩) ⟨fun a U g mk q => by obtain ⟨q0, q1, qP, qK, qD⟩ := q; exact ⟨q0, q1, qP, va_K.moved (u := U) (U := U.calling g mk a) (Vm.Alike.refl U.vm) qK, qD⟩, va_recv hK hPc (ci := 10) (q0 := 0) rfl rfl, fun U hU hW => ⟨rfl, by rw [hU], by rw [hU]; exact hPc, va_K.moved hW.alike hK, hDc.weaken (fun _ _ _ _ => trivial)⟩⟩ rfl rfl hl.1 rfl (lv_room (Nat.le_of_ble_eq_true rfl)) dX11_span_59 ⟨Nat.le_of_ble_eq_true rfl, Nat.le_of_ble_eq_true rfl⟩) hS (fun q _ h => hFc q h) hFc (fun u t H1 locs ht hvm hw hB hz1 hk1 hSn => ?_)
          obtain ⟨lt_10, ft1_10, ft2_10, ft3_10, hP1, hD1, hf10_0⟩ := hB
          rw [ht] at hP1
          obtain ⟨hPn, hDn⟩ := va_join (wr := [(oX, .inr (11, [.ref nT, .ref nL, .ref nM, .ref oC, .ref oP, .ref oH, .ref oK, .ref oG, .ref oR, .ref oQ, .ref oW, .int (-1)])), (oW, .inr (1, [.ref oC, .ref oK, .ref nw, .ref w1, .ref w2, .ref w3, .ref o7, .ref o8, .ref o9, .ref w4, .ref w5, .ref w6, .ref w7, .int ke, .int tl, .int fsh, .int wi, .int ri, .int fm, .int lm])), (oC, .inr (2, [.ref o4, .ref o5]))]) (w1 := [(o5, .inr (10, [.ref a51, .ref a52, .ref a53, .int lt_10])), (a51, .inl (cI, 256, .inl ft1_10)), (a52, .inl (cI, 512, .inl ft2_10)), (a53, .inl (cI, 512, .inl ft3_10))]) hP hD [3, 4, 5, 6] [0, 1, 2] rfl rfl (by decide +kernel) (by decide +kernel) hk1 hFc hP1 hD1
          clear hP hD hS hPc hDc hFc hk1 hz1 hvm ht hP1 hD1
          generalize H1 = H at hPn hSn ⊢
          have hP : va_P (dC, dI) vwCl [(oX, .inr (11, [.ref nT, .ref nL, .ref nM, .ref oC, .ref oP, .ref oH, .ref oK, .ref oG, .ref oR, .ref oQ, .ref oW, .int (-1)])), (oW, .inr (1, [.ref oC, .ref oK, .ref nw, .ref w1, .ref w2, .ref w3, .ref o7, .ref o8, .ref o9, .ref w4, .ref w5, .ref w6, .ref w7, .int ke, .int tl, .int fsh, .int wi, .int ri, .int fm, .int lm])), (oC, .inr (2, [.ref o4, .ref o5])), (o5, .inr (10, [.ref a51, .ref a52, .ref a53, .int lt_10])), (a51, .inl (cI, 256, .inl ft1_10)), (a52, .inl (cI, 512, .inl ft2_10)), (a53, .inl (cI, 512, .inl ft3_10))] H := hPn
          have hD : va_D A [(oX, .inr (11, [.ref nT, .ref nL, .ref nM, .ref oC, .ref oP, .ref oH, .ref oK, .ref oG, .ref oR, .ref oQ, .ref oW, .int (-1)])), (oW, .inr (1, [.ref oC, .ref oK, .ref nw, .ref w1, .ref w2, .ref w3, .ref o7, .ref o8, .ref o9, .ref w4, .ref w5, .ref w6, .ref w7, .int ke, .int tl, .int fsh, .int wi, .int ri, .int fm, .int lm])), (oC, .inr (2, [.ref o4, .ref o5])), (o5, .inr (10, [.ref a51, .ref a52, .ref a53, .int lt_10])), (a51, .inl (cI, 256, .inl ft1_10)), (a52, .inl (cI, 512, .inl ft2_10)), (a53, .inl (cI, 512, .inl ft3_10))] := hDn
          have hS := hSn
          clear hPn hDn hSn
          obtain ⟨x_11, ex_11⟩ : ∃ y : Int32, y = i + 1 := ⟨_, rfl⟩
          have tx_11 : x_11.toInt = i.toInt + 1 := v_add ex_11 (by show -2147483648 ≤ i.toInt + 1; omega) (by show i.toInt + 1 < 2147483648; omega)
          refine lv_iinc (v := x_11) (lv' := [(7, .int x_11), (6, .ref o5), (0, .ref oX), (1, .int cd), (2, .int fr), (3, .int n), (4, .int le), (5, .int sp)]) hx hb dX11_span_62 hl (k := 0) rfl (by rw [ex_11]; rfl) (by decide) rfl (fun ls hl => ?_)
          refine lv_goto (tgt := 39) hx hb dX11_span_65 (by decide) ?_
          exact ih_39 x_11 lt_10 ft1_10 ft2_10 ft3_10 _ _ _ (ms_lt hm_39 (by show ((256 - x_11.toInt : Int)) < 256 - i.toInt; omega) (by show (0 : Int) < 256 - i.toInt; omega)) (by show 0 ≤ x_11.toInt ∧ x_11.toInt ≤ 256; omega) (by show x_11.toInt ≤ n.toInt; omega) (SPC_s hCT hsp (by omega) (by omega) ex_8 ex_9 (by omega) hf10_0 (by omega)) hP hD hS (lv_sub hl [0, 1, 2, 3, 4, 5, 6, 7] rfl)
    exact LOOP_39 _ 0 l5 f51 f52 f53 _ _ _ (ms_s _) (by decide) (by show 0 ≤ n.toInt; omega) (SPC_0 hT hoo) hP hD hS (lv_sub hl [0, 1, 2, 3, 4, 5, 6, 7] rfl)
  · have tc_3 : r_2.toInt = 0 := v_eq c_3
    refine lv_iconst (v := (-1)) hx hb dX11_span_34 (by decide) ?_
    have hP9 := hP.sub (ws' := [(oX, .inr (11, [.ref nT, .ref nL, .ref nM, .ref oC, .ref oP, .ref oH, .ref oK, .ref oG, .ref oR, .ref oQ, .ref oW, .int (-1)])), (oC, .inr (2, [.ref o4, .ref o5])), (o5, .inr (10, [.ref a51, .ref a52, .ref a53, .int l5])), (a51, .inl (cI, 256, .inl f51)), (a52, .inl (cI, 512, .inl f52)), (a53, .inl (cI, 512, .inl f53)), (oW, .inr (1, [.ref oC, .ref oK, .ref nw, .ref w1, .ref w2, .ref w3, .ref o7, .ref o8, .ref o9, .ref w4, .ref w5, .ref w6, .ref w7, .int ke, .int tl, .int fsh, .int wi, .int ri, .int fm, .int lm]))]) [0, 2, 3, 4, 5, 6, 1] rfl
    have hD9 := hD.sub (ws' := [(oX, .inr (11, [.ref nT, .ref nL, .ref nM, .ref oC, .ref oP, .ref oH, .ref oK, .ref oG, .ref oR, .ref oQ, .ref oW, .int (-1)])), (oC, .inr (2, [.ref o4, .ref o5])), (o5, .inr (10, [.ref a51, .ref a52, .ref a53, .int l5])), (a51, .inl (cI, 256, .inl f51)), (a52, .inl (cI, 512, .inl f52)), (a53, .inl (cI, 512, .inl f53)), (oW, .inr (1, [.ref oC, .ref oK, .ref nw, .ref w1, .ref w2, .ref w3, .ref o7, .ref o8, .ref o9, .ref w4, .ref w5, .ref w6, .ref w7, .int ke, .int tl, .int fsh, .int wi, .int ri, .int fm, .int lm]))]) [0, 2, 3, 4, 5, 6, 1] (by decide +kernel) rfl
    rw [hQQ]
    exact W.iret (v := (-1)) hx hb hr (fun t ht hW => ⟨⟨(-1), (-1), rfl, rfl, ⟨(-1), fsh, l5, f51, f52, f53, by rw [ht]; exact hP9, hD9, g_fsh, Or.inr ⟨rfl, rfl, rfl, rfl, rfl, F_ct_0 hf2_1 (by omega)⟩, Or.inr ⟨F_ct_0 hf2_1 (by omega), rfl⟩⟩⟩, hS.F ht⟩) hS.2.2 dX11_span_35

set_option maxHeartbeats 40000000 in
set_option maxRecDepth 100000 in
theorem f_blank_5 (l : Launch) (dC : Nat → ClassId) (dI : Nat → Nat → Nat) (cI cS : ClassId) (sz : Nat) (oX : Nat) (nT : Nat) (nL : Nat) (nM : Nat) (oC : Nat) (oP : Nat) (oH : Nat) (oK : Nat) (oG : Nat) (oR : Nat) (oQ : Nat) (oW : Nat) (o4 : Nat) (o5 : Nat) (a51 : Nat) (a52 : Nat) (a53 : Nat) (nw : Nat) (w1 : Nat) (w2 : Nat) (w3 : Nat) (o7 : Nat) (o8 : Nat) (o9 : Nat) (w4 : Nat) (w5 : Nat) (w6 : Nat) (w7 : Nat) (fa : Int32) (l5 : Int32) (f51 : Nat → Int32) (f53 : Nat → Int32) (ke : Int32) (tl : Int32) (fsh : Int32) (wi : Int32) (ri : Int32) (fm : Int32) (lm : Int32) (cd : Int32) (g_ke : 0 ≤ ke.toInt ∧ ke.toInt ≤ 200) (g_fsh : 0 ≤ fsh.toInt ∧ fsh.toInt ≤ 1) (g_fm : -1 ≤ fm.toInt ∧ fm.toInt ≤ 800) (g_lm : -1 ≤ lm.toInt ∧ lm.toInt ≤ 800) (hcd : cd.toInt = 5) : Met l yX11_blank wsX11_blank ({ frames := 2, cells := 0, slots := 0, locals := 43 } : Room) (va_Pc [.ref oX, .int cd] (fun U => U.heap.size = sz ∧ va_P (dC, dI) vwCl [(oX, .inr (11, [.ref nT, .ref nL, .ref nM, .ref oC, .ref oP, .ref oH, .ref oK, .ref oG, .ref oR, .ref oQ, .ref oW, .int fa])), (oC, .inr (2, [.ref o4, .ref o5])), (o5, .inr (10, [.ref a51, .ref a52, .ref a53, .int l5])), (a51, .inl (cI, 256, .inl f51)), (a53, .inl (cI, 512, .inl f53)), (oW, .inr (1, [.ref oC, .ref oK, .ref nw, .ref w1, .ref w2, .ref w3, .ref o7, .ref o8, .ref o9, .ref w4, .ref w5, .ref w6, .ref w7, .int ke, .int tl, .int fsh, .int wi, .int ri, .int fm, .int lm]))] U.heap ∧ va_K (dC, dI) vwCl [(cI, .int), (cS, .short)] U ∧ va_D (fun _ => True) [(oX, .inr (11, [.ref nT, .ref nL, .ref nM, .ref oC, .ref oP, .ref oH, .ref oK, .ref oG, .ref oR, .ref oQ, .ref oW, .int fa])), (oC, .inr (2, [.ref o4, .ref o5])), (o5, .inr (10, [.ref a51, .ref a52, .ref a53, .int l5])), (a51, .inl (cI, 256, .inl f51)), (a53, .inl (cI, 512, .inl f53)), (oW, .inr (1, [.ref oC, .ref oK, .ref nw, .ref w1, .ref w2, .ref w3, .ref o7, .ref o8, .ref o9, .ref w4, .ref w5, .ref w6, .ref w7, .int ke, .int tl, .int fsh, .int wi, .int ri, .int fm, .int lm]))])) (va_Qi (fun (r : Int32) (u : Int32) => r = u) (fun (r : Int32) t => ∃ (fsh' : Int32) (l5' : Int32) (f51' : Nat → Int32) (f53' : Nat → Int32), va_P (dC, dI) vwCl [(oX, .inr (11, [.ref nT, .ref nL, .ref nM, .ref oC, .ref oP, .ref oH, .ref oK, .ref oG, .ref oR, .ref oQ, .ref oW, .int fa])), (oC, .inr (2, [.ref o4, .ref o5])), (o5, .inr (10, [.ref a51, .ref a52, .ref a53, .int l5'])), (a51, .inl (cI, 256, .inl f51')), (a53, .inl (cI, 512, .inl f53')), (oW, .inr (1, [.ref oC, .ref oK, .ref nw, .ref w1, .ref w2, .ref w3, .ref o7, .ref o8, .ref o9, .ref w4, .ref w5, .ref w6, .ref w7, .int ke, .int tl, .int fsh', .int wi, .int ri, .int fm, .int lm]))] t.heap ∧ va_D (va_A [(oX, .inr (11, [.ref nT, .ref nL, .ref nM, .ref oC, .ref oP, .ref oH, .ref oK, .ref oG, .ref oR, .ref oQ, .ref oW, .int fa])), (oC, .inr (2, [.ref o4, .ref o5])), (o5, .inr (10, [.ref a51, .ref a52, .ref a53, .int l5])), (a51, .inl (cI, 256, .inl f51)), (a53, .inl (cI, 512, .inl f53)), (oW, .inr (1, [.ref oC, .ref oK, .ref nw, .ref w1, .ref w2, .ref w3, .ref o7, .ref o8, .ref o9, .ref w4, .ref w5, .ref w6, .ref w7, .int ke, .int tl, .int fsh, .int wi, .int ri, .int fm, .int lm]))] sz) [(oX, .inr (11, [.ref nT, .ref nL, .ref nM, .ref oC, .ref oP, .ref oH, .ref oK, .ref oG, .ref oR, .ref oQ, .ref oW, .int fa])), (oC, .inr (2, [.ref o4, .ref o5])), (o5, .inr (10, [.ref a51, .ref a52, .ref a53, .int l5'])), (a51, .inl (cI, 256, .inl f51')), (a53, .inl (cI, 512, .inl f53')), (oW, .inr (1, [.ref oC, .ref oK, .ref nw, .ref w1, .ref w2, .ref w3, .ref o7, .ref o8, .ref o9, .ref w4, .ref w5, .ref w6, .ref w7, .int ke, .int tl, .int fsh', .int wi, .int ri, .int fm, .int lm]))] ∧ (0 ≤ fsh'.toInt ∧ fsh'.toInt ≤ 1) ∧ (r = 1) ∧ (l5' = 0) ∧ (F_fill 256 f51' (-1)) ∧ (F_fill 512 f53' (-1)) ∧ (fsh' = 0)) (va_A [(oX, .inr (11, [.ref nT, .ref nL, .ref nM, .ref oC, .ref oP, .ref oH, .ref oK, .ref oG, .ref oR, .ref oQ, .ref oW, .int fa])), (oC, .inr (2, [.ref o4, .ref o5])), (o5, .inr (10, [.ref a51, .ref a52, .ref a53, .int l5])), (a51, .inl (cI, 256, .inl f51)), (a53, .inl (cI, 512, .inl f53)), (oW, .inr (1, [.ref oC, .ref oK, .ref nw, .ref w1, .ref w2, .ref w3, .ref o7, .ref o8, .ref o9, .ref w4, .ref w5, .ref w6, .ref w7, .int ke, .int tl, .int fsh, .int wi, .int ri, .int fm, .int lm]))] sz)) 0 0 (va_A [(oX, .inr (11, [.ref nT, .ref nL, .ref nM, .ref oC, .ref oP, .ref oH, .ref oK, .ref oG, .ref oR, .ref oQ, .ref oW, .int fa])), (oC, .inr (2, [.ref o4, .ref o5])), (o5, .inr (10, [.ref a51, .ref a52, .ref a53, .int l5])), (a51, .inl (cI, 256, .inl f51)), (a53, .inl (cI, 512, .inl f53)), (oW, .inr (1, [.ref oC, .ref oK, .ref nw, .ref w1, .ref w2, .ref w3, .ref o7, .ref o8, .ref o9, .ref w4, .ref w5, .ref w6, .ref w7, .int ke, .int tl, .int fsh, .int wi, .int ri, .int fm, .int lm]))] sz) := by
  refine Met.ofW (cc := cX11_blank) (maxL := 3) (ret := (some .boolean)) (by decide) rfl ?_
  intro p e s m args below meth c s₁ B hml hv
  obtain ⟨rfl, hsz, hP, hK, hD0⟩ := hv
  have hx := B.exec
  have hb := B.bytes
  have hr := B.returns
  have hts := atoms_spec (ws := wsX11_blank) B.pre
  have hown : s.vm.findClass RX11 = some m.cls := findClass_of_methodNamed B.named
  have hlocks := B.notSynchronized
  have in_X11 : ∀ w ∈ wsX110, w ∈ wsX11_blank := fun _ h => List.mem_cons_of_mem _ (List.mem_append_left _ (List.mem_append_left _ (List.mem_append_left _ (List.mem_append_right _ (h)))))
  subst hsz
  have hD := hD0.self (sz := s.heap.size)
  generalize hAe : va_A [(oX, .inr (11, [.ref nT, .ref nL, .ref nM, .ref oC, .ref oP, .ref oH, .ref oK, .ref oG, .ref oR, .ref oQ, .ref oW, .int fa])), (oC, .inr (2, [.ref o4, .ref o5])), (o5, .inr (10, [.ref a51, .ref a52, .ref a53, .int l5])), (a51, .inl (cI, 256, .inl f51)), (a53, .inl (cI, 512, .inl f53)), (oW, .inr (1, [.ref oC, .ref oK, .ref nw, .ref w1, .ref w2, .ref w3, .ref o7, .ref o8, .ref o9, .ref w4, .ref w5, .ref w6, .ref w7, .int ke, .int tl, .int fsh, .int wi, .int ri, .int fm, .int lm]))] s.heap.size = A at hD ⊢
  have hA : ∀ q : Nat, s.heap.size ≤ q → A q := fun q h => by rw [← hAe]; exact Or.inr h
  have hS : va_S A s.heap s.heap [] := va_S.rf
  have hP : va_P (dC, dI) vwCl [(oX, .inr (11, [.ref nT, .ref nL, .ref nM, .ref oC, .ref oP, .ref oH, .ref oK, .ref oG, .ref oR, .ref oQ, .ref oW, .int fa])), (oC, .inr (2, [.ref o4, .ref o5])), (o5, .inr (10, [.ref a51, .ref a52, .ref a53, .int l5])), (a51, .inl (cI, 256, .inl f51)), (a53, .inl (cI, 512, .inl f53)), (oW, .inr (1, [.ref oC, .ref oK, .ref nw, .ref w1, .ref w2, .ref w3, .ref o7, .ref o8, .ref o9, .ref w4, .ref w5, .ref w6, .ref w7, .int ke, .int tl, .int fsh, .int wi, .int ri, .int fm, .int lm]))] s.heap := hP
  have hl := lv_entry ([.ref oX, .int cd]) (n := 3) (Nat.le_of_ble_eq_true rfl)
  rw [lg_entry_eq]
  generalize (lg_sl ([.ref oX, .int cd]) ++ List.replicate (3 - (lg_sl ([.ref oX, .int cd])).length) Slot.unset).toArray = ls at hl ⊢
  have hl : lv_has ls 3 [(0, .ref oX), (1, .int cd)] := hl
  obtain ⟨QQ, hQQ⟩ : ∃ QQ : Array Value → State → Outcome → State → Prop, QQ = va_Qi (fun (r : Int32) (u : Int32) => r = u) (fun (r : Int32) t => ∃ (fsh' : Int32) (l5' : Int32) (f51' : Nat → Int32) (f53' : Nat → Int32), va_P (dC, dI) vwCl [(oX, .inr (11, [.ref nT, .ref nL, .ref nM, .ref oC, .ref oP, .ref oH, .ref oK, .ref oG, .ref oR, .ref oQ, .ref oW, .int fa])), (oC, .inr (2, [.ref o4, .ref o5])), (o5, .inr (10, [.ref a51, .ref a52, .ref a53, .int l5'])), (a51, .inl (cI, 256, .inl f51')), (a53, .inl (cI, 512, .inl f53')), (oW, .inr (1, [.ref oC, .ref oK, .ref nw, .ref w1, .ref w2, .ref w3, .ref o7, .ref o8, .ref o9, .ref w4, .ref w5, .ref w6, .ref w7, .int ke, .int tl, .int fsh', .int wi, .int ri, .int fm, .int lm]))] t.heap ∧ va_D A [(oX, .inr (11, [.ref nT, .ref nL, .ref nM, .ref oC, .ref oP, .ref oH, .ref oK, .ref oG, .ref oR, .ref oQ, .ref oW, .int fa])), (oC, .inr (2, [.ref o4, .ref o5])), (o5, .inr (10, [.ref a51, .ref a52, .ref a53, .int l5'])), (a51, .inl (cI, 256, .inl f51')), (a53, .inl (cI, 512, .inl f53')), (oW, .inr (1, [.ref oC, .ref oK, .ref nw, .ref w1, .ref w2, .ref w3, .ref o7, .ref o8, .ref o9, .ref w4, .ref w5, .ref w6, .ref w7, .int ke, .int tl, .int fsh', .int wi, .int ri, .int fm, .int lm]))] ∧ (0 ≤ fsh'.toInt ∧ fsh'.toInt ≤ 1) ∧ (r = 1) ∧ (l5' = 0) ∧ (F_fill 256 f51' (-1)) ∧ (F_fill 512 f53' (-1)) ∧ (fsh' = 0)) A := ⟨_, rfl⟩
  rw [← hQQ]
  refine lv_aload_n hx hb dX11_blank_0 rfl (lv_at hl 0 rfl) ?_
  refine va_get (D := (dC, dI)) (ci := 11) (v := .ref oC) (C := RX11) (T := TX11) (N := 12) hx hb hts in_X11 hown hK hP 0 rfl rfl 3 (by decide) (hts (.fieldLink RX11 40 "TextMender" "codes" "LTextMender$Codes;") (List.mem_of_getElem? (i := 1) rfl)) (fun _ h9 => h9) rfl dX11_blank_1 ?_
  refine lv_iload_n hx hb dX11_blank_4 rfl (lv_at hl 1 rfl) ?_
  have hPc := hP.sub (ws' := [(oC, .inr (2, [.ref o4, .ref o5]))]) [1] rfl
  have hDc := hD.sub (ws' := [(oC, .inr (2, [.ref o4, .ref o5]))]) [1] (by decide +kernel) rfl
  have hFc := va_free (wc := [(oC, .inr (2, [.ref o4, .ref o5]))]) hD hS hA [1] rfl
  refine va_callr (va_runV (As := [.int cd]) (rest := []) ⟨hx, hb, hml, hown, hts⟩ (m_X2_toldCode_5 l dC dI cI cS s.heap.size oC o4 o5 cd (by omega)) (cwV 1 hts gX11_blank_X2_toldCode rfl rfl rfl (by decide +kernel) ⟨Nat.le_of_ble_eq_true rfl, Nat.le_of_ble_eq_true rfl⟩) ⟨fun a U g mk q => by obtain ⟨q0, q1, qP, qK, qD⟩ := q; exact ⟨q0, q1, qP, va_K.moved (u := U) (U := U.calling g mk a) (Vm.Alike.refl U.vm) qK, qD⟩, va_recv hK hPc (ci := 2) (q0 := 0) rfl rfl, fun U hU hW => ⟨rfl, by rw [hU], by rw [hU]; exact hPc, va_K.moved hW.alike hK, hDc.weaken (fun _ _ _ _ => trivial)⟩⟩ rfl rfl hl.1 rfl (lv_room (Nat.le_of_ble_eq_true rfl)) dX11_blank_5 ⟨Nat.le_of_ble_eq_true rfl, Nat.le_of_ble_eq_true rfl⟩) hS (fun q _ h => hFc q h) hFc (fun u r_1 t H1 locs ht hvm hw hB hz1 hk1 hSn => ?_)
  obtain ⟨hra, hP1, hD1⟩ := hB
  rw [hra]
  rw [ht] at hP1
  obtain ⟨hPn, hDn⟩ := va_join (wr := [(oX, .inr (11, [.ref nT, .ref nL, .ref nM, .ref oC, .ref oP, .ref oH, .ref oK, .ref oG, .ref oR, .ref oQ, .ref oW, .int fa])), (o5, .inr (10, [.ref a51, .ref a52, .ref a53, .int l5])), (a51, .inl (cI, 256, .inl f51)), (a53, .inl (cI, 512, .inl f53)), (oW, .inr (1, [.ref oC, .ref oK, .ref nw, .ref w1, .ref w2, .ref w3, .ref o7, .ref o8, .ref o9, .ref w4, .ref w5, .ref w6, .ref w7, .int ke, .int tl, .int fsh, .int wi, .int ri, .int fm, .int lm]))]) (w1 := [(oC, .inr (2, [.ref o4, .ref o5]))]) hP hD [1] [0, 2, 3, 4, 5] rfl rfl (by decide +kernel) (by decide +kernel) hk1 hFc hP1 hD1
  clear hP hD hS hPc hDc hFc hk1 hz1 hvm ht hP1 hD1
  generalize H1 = H at hPn hSn ⊢
  have hP : va_P (dC, dI) vwCl [(oX, .inr (11, [.ref nT, .ref nL, .ref nM, .ref oC, .ref oP, .ref oH, .ref oK, .ref oG, .ref oR, .ref oQ, .ref oW, .int fa])), (o5, .inr (10, [.ref a51, .ref a52, .ref a53, .int l5])), (a51, .inl (cI, 256, .inl f51)), (a53, .inl (cI, 512, .inl f53)), (oW, .inr (1, [.ref oC, .ref oK, .ref nw, .ref w1, .ref w2, .ref w3, .ref o7, .ref o8, .ref o9, .ref w4, .ref w5, .ref w6, .ref w7, .int ke, .int tl, .int fsh, .int wi, .int ri, .int fm, .int lm])), (oC, .inr (2, [.ref o4, .ref o5]))] H := hPn
  have hD : va_D A [(oX, .inr (11, [.ref nT, .ref nL, .ref nM, .ref oC, .ref oP, .ref oH, .ref oK, .ref oG, .ref oR, .ref oQ, .ref oW, .int fa])), (o5, .inr (10, [.ref a51, .ref a52, .ref a53, .int l5])), (a51, .inl (cI, 256, .inl f51)), (a53, .inl (cI, 512, .inl f53)), (oW, .inr (1, [.ref oC, .ref oK, .ref nw, .ref w1, .ref w2, .ref w3, .ref o7, .ref o8, .ref o9, .ref w4, .ref w5, .ref w6, .ref w7, .int ke, .int tl, .int fsh, .int wi, .int ri, .int fm, .int lm])), (oC, .inr (2, [.ref o4, .ref o5]))] := hDn
  have hS := hSn
  clear hPn hDn hSn
  refine lv_astore_n (lv' := [(2, .ref o5), (0, .ref oX), (1, .int cd)]) hx hb dX11_blank_8 rfl hl (by decide) rfl (fun ls hl => ?_)
  refine lv_aload_n hx hb dX11_blank_9 rfl (lv_at hl 0 rfl) ?_
  refine lv_ifnonnull (tgt := 15) hx hb dX11_blank_10 (by decide) ?_
  refine lv_aload_n hx hb dX11_blank_15 rfl (lv_at hl 0 rfl) ?_
  have hPc := hP.sub (ws' := [(o5, .inr (10, [.ref a51, .ref a52, .ref a53, .int l5])), (a51, .inl (cI, 256, .inl f51)), (a53, .inl (cI, 512, .inl f53))]) [1, 2, 3] rfl
  have hDc := hD.sub (ws' := [(o5, .inr (10, [.ref a51, .ref a52, .ref a53, .int l5])), (a51, .inl (cI, 256, .inl f51)), (a53, .inl (cI, 512, .inl f53))]) [1, 2, 3] (by decide +kernel) rfl
  have hFc := va_free (wc := [(o5, .inr (10, [.ref a51, .ref a52, .ref a53, .int l5])), (a51, .inl (cI, 256, .inl f51)), (a53, .inl (cI, 512, .inl f53))]) hD hS hA [1, 2, 3] rfl
  refine va_callv (va_runV (As := []) (rest := []) ⟨hx, hb, hml, hown, hts⟩ (m_X10_empty l dC dI cI cS H.size o5 a51 a52 a53 l5 f51 f53 ) (cwV 0 hts gX11_blank_X10_empty rfl rfl rfl (by decide +kernel) ⟨Nat.le_of_ble_eq_true rfl, Nat.le_of_ble_eq_true rfl⟩) ⟨fun a U g mk q => by obtain ⟨q0, q1, qP, qK, qD⟩ := q; exact ⟨q0, q1, qP, va_K.moved (u := U) (U := U.calling g mk a) (Vm.Alike.refl U.vm) qK, qD⟩, va_recv hK hPc (ci := 10) (q0 := 0) rfl rfl, fun U hU hW => ⟨rfl, by rw [hU], by rw [hU]; exact hPc, va_K.moved hW.alike hK, hDc.weaken (fun _ _ _ _ => trivial)⟩⟩ rfl rfl hl.1 rfl (lv_room (Nat.le_of_ble_eq_true rfl)) dX11_blank_16 ⟨Nat.le_of_ble_eq_true rfl, Nat.le_of_ble_eq_true rfl⟩) hS (fun q _ h => hFc q h) hFc (fun u t H1 locs ht hvm hw hB hz1 hk1 hSn => ?_)
  obtain ⟨lt_2, ft1_2, ft3_2, hP1, hD1, hf2_0, hf2_1, hf2_2⟩ := hB
  rw [ht] at hP1
  obtain ⟨hPn, hDn⟩ := va_join (wr := [(oX, .inr (11, [.ref nT, .ref nL, .ref nM, .ref oC, .ref oP, .ref oH, .ref oK, .ref oG, .ref oR, .ref oQ, .ref oW, .int fa])), (oW, .inr (1, [.ref oC, .ref oK, .ref nw, .ref w1, .ref w2, .ref w3, .ref o7, .ref o8, .ref o9, .ref w4, .ref w5, .ref w6, .ref w7, .int ke, .int tl, .int fsh, .int wi, .int ri, .int fm, .int lm])), (oC, .inr (2, [.ref o4, .ref o5]))]) (w1 := [(o5, .inr (10, [.ref a51, .ref a52, .ref a53, .int lt_2])), (a51, .inl (cI, 256, .inl ft1_2)), (a53, .inl (cI, 512, .inl ft3_2))]) hP hD [1, 2, 3] [0, 4, 5] rfl rfl (by decide +kernel) (by decide +kernel) hk1 hFc hP1 hD1
  clear hP hD hS hPc hDc hFc hk1 hz1 hvm ht hP1 hD1
  generalize H1 = H at hPn hSn ⊢
  have hP : va_P (dC, dI) vwCl [(oX, .inr (11, [.ref nT, .ref nL, .ref nM, .ref oC, .ref oP, .ref oH, .ref oK, .ref oG, .ref oR, .ref oQ, .ref oW, .int fa])), (oW, .inr (1, [.ref oC, .ref oK, .ref nw, .ref w1, .ref w2, .ref w3, .ref o7, .ref o8, .ref o9, .ref w4, .ref w5, .ref w6, .ref w7, .int ke, .int tl, .int fsh, .int wi, .int ri, .int fm, .int lm])), (oC, .inr (2, [.ref o4, .ref o5])), (o5, .inr (10, [.ref a51, .ref a52, .ref a53, .int lt_2])), (a51, .inl (cI, 256, .inl ft1_2)), (a53, .inl (cI, 512, .inl ft3_2))] H := hPn
  have hD : va_D A [(oX, .inr (11, [.ref nT, .ref nL, .ref nM, .ref oC, .ref oP, .ref oH, .ref oK, .ref oG, .ref oR, .ref oQ, .ref oW, .int fa])), (oW, .inr (1, [.ref oC, .ref oK, .ref nw, .ref w1, .ref w2, .ref w3, .ref o7, .ref o8, .ref o9, .ref w4, .ref w5, .ref w6, .ref w7, .int ke, .int tl, .int fsh, .int wi, .int ri, .int fm, .int lm])), (oC, .inr (2, [.ref o4, .ref o5])), (o5, .inr (10, [.ref a51, .ref a52, .ref a53, .int lt_2])), (a51, .inl (cI, 256, .inl ft1_2)), (a53, .inl (cI, 512, .inl ft3_2))] := hDn
  have hS := hSn
  clear hPn hDn hSn
  refine lv_aload_n hx hb dX11_blank_19 rfl (lv_at hl 1 rfl) ?_
  refine va_get (D := (dC, dI)) (ci := 11) (v := .ref oW) (C := RX11) (T := TX11) (N := 12) hx hb hts in_X11 hown hK hP 0 rfl rfl 10 (by decide) (hts (.fieldLink RX11 86 "TextMender" "choiceBook" "LTextMender$Choices;") (List.mem_of_getElem? (i := 2) rfl)) (fun _ h9 => h9) rfl dX11_blank_20 ?_
  have hPc := hP.sub (ws' := [(oW, .inr (1, [.ref oC, .ref oK, .ref nw, .ref w1, .ref w2, .ref w3, .ref o7, .ref o8, .ref o9, .ref w4, .ref w5, .ref w6, .ref w7, .int ke, .int tl, .int fsh, .int wi, .int ri, .int fm, .int lm]))]) [1] rfl
  have hDc := hD.sub (ws' := [(oW, .inr (1, [.ref oC, .ref oK, .ref nw, .ref w1, .ref w2, .ref w3, .ref o7, .ref o8, .ref o9, .ref w4, .ref w5, .ref w6, .ref w7, .int ke, .int tl, .int fsh, .int wi, .int ri, .int fm, .int lm]))]) [1] (by decide +kernel) rfl
  have hFc := va_free (wc := [(oW, .inr (1, [.ref oC, .ref oK, .ref nw, .ref w1, .ref w2, .ref w3, .ref o7, .ref o8, .ref o9, .ref w4, .ref w5, .ref w6, .ref w7, .int ke, .int tl, .int fsh, .int wi, .int ri, .int fm, .int lm]))]) hD hS hA [1] rfl
  refine va_callv (va_runV (As := []) (rest := []) ⟨hx, hb, hml, hown, hts⟩ (f_X1_forgetFreshness l dC dI cI cS H.size oW oC oK nw w1 w2 w3 o7 o8 o9 w4 w5 w6 w7 ke tl fsh wi ri fm lm (g_ke) (g_fsh) (g_fm) (g_lm)) (cwV 0 hts gX11_blank_X1_forgetFreshness rfl rfl rfl (by decide +kernel) ⟨Nat.le_of_ble_eq_true rfl, Nat.le_of_ble_eq_true rfl⟩) ⟨fun a U g mk q => by obtain ⟨q0, q1, qP, qK, qD⟩ := q; exact ⟨q0, q1, qP, va_K.moved (u := U) (U := U.calling g mk a) (Vm.Alike.refl U.vm) qK, qD⟩, va_recv hK hPc (ci := 1) (q0 := 0) rfl rfl, fun U hU hW => ⟨rfl, by rw [hU], by rw [hU]; exact hPc, va_K.moved hW.alike hK, hDc.weaken (fun _ _ _ _ => trivial)⟩⟩ rfl rfl hl.1 rfl (lv_room (Nat.le_of_ble_eq_true rfl)) dX11_blank_23 ⟨Nat.le_of_ble_eq_true rfl, Nat.le_of_ble_eq_true rfl⟩) hS (fun q _ h => hFc q h) hFc (fun u t H1 locs ht hvm hw hB hz1 hk1 hSn => ?_)
  obtain ⟨fsh_3, hP1, hD1, hf3_0, hf3_1⟩ := hB
  rw [ht] at hP1
  obtain ⟨hPn, hDn⟩ := va_join (wr := [(oX, .inr (11, [.ref nT, .ref nL, .ref nM, .ref oC, .ref oP, .ref oH, .ref oK, .ref oG, .ref oR, .ref oQ, .ref oW, .int fa])), (oC, .inr (2, [.ref o4, .ref o5])), (o5, .inr (10, [.ref a51, .ref a52, .ref a53, .int lt_2])), (a51, .inl (cI, 256, .inl ft1_2)), (a53, .inl (cI, 512, .inl ft3_2))]) (w1 := [(oW, .inr (1, [.ref oC, .ref oK, .ref nw, .ref w1, .ref w2, .ref w3, .ref o7, .ref o8, .ref o9, .ref w4, .ref w5, .ref w6, .ref w7, .int ke, .int tl, .int fsh_3, .int wi, .int ri, .int fm, .int lm]))]) hP hD [1] [0, 2, 3, 4, 5] rfl rfl (by decide +kernel) (by decide +kernel) hk1 hFc hP1 hD1
  clear hP hD hS hPc hDc hFc hk1 hz1 hvm ht hP1 hD1
  generalize H1 = H at hPn hSn ⊢
  have hP : va_P (dC, dI) vwCl [(oX, .inr (11, [.ref nT, .ref nL, .ref nM, .ref oC, .ref oP, .ref oH, .ref oK, .ref oG, .ref oR, .ref oQ, .ref oW, .int fa])), (oC, .inr (2, [.ref o4, .ref o5])), (o5, .inr (10, [.ref a51, .ref a52, .ref a53, .int lt_2])), (a51, .inl (cI, 256, .inl ft1_2)), (a53, .inl (cI, 512, .inl ft3_2)), (oW, .inr (1, [.ref oC, .ref oK, .ref nw, .ref w1, .ref w2, .ref w3, .ref o7, .ref o8, .ref o9, .ref w4, .ref w5, .ref w6, .ref w7, .int ke, .int tl, .int fsh_3, .int wi, .int ri, .int fm, .int lm]))] H := hPn
  have hD : va_D A [(oX, .inr (11, [.ref nT, .ref nL, .ref nM, .ref oC, .ref oP, .ref oH, .ref oK, .ref oG, .ref oR, .ref oQ, .ref oW, .int fa])), (oC, .inr (2, [.ref o4, .ref o5])), (o5, .inr (10, [.ref a51, .ref a52, .ref a53, .int lt_2])), (a51, .inl (cI, 256, .inl ft1_2)), (a53, .inl (cI, 512, .inl ft3_2)), (oW, .inr (1, [.ref oC, .ref oK, .ref nw, .ref w1, .ref w2, .ref w3, .ref o7, .ref o8, .ref o9, .ref w4, .ref w5, .ref w6, .ref w7, .int ke, .int tl, .int fsh_3, .int wi, .int ri, .int fm, .int lm]))] := hDn
  have hS := hSn
  clear hPn hDn hSn
  refine lv_iconst (v := 1) hx hb dX11_blank_26 (by decide) ?_
  have hP9 := hP.sub (ws' := [(oX, .inr (11, [.ref nT, .ref nL, .ref nM, .ref oC, .ref oP, .ref oH, .ref oK, .ref oG, .ref oR, .ref oQ, .ref oW, .int fa])), (oC, .inr (2, [.ref o4, .ref o5])), (o5, .inr (10, [.ref a51, .ref a52, .ref a53, .int lt_2])), (a51, .inl (cI, 256, .inl ft1_2)), (a53, .inl (cI, 512, .inl ft3_2)), (oW, .inr (1, [.ref oC, .ref oK, .ref nw, .ref w1, .ref w2, .ref w3, .ref o7, .ref o8, .ref o9, .ref w4, .ref w5, .ref w6, .ref w7, .int ke, .int tl, .int fsh_3, .int wi, .int ri, .int fm, .int lm]))]) [0, 1, 2, 3, 4, 5] rfl
  have hD9 := hD.sub (ws' := [(oX, .inr (11, [.ref nT, .ref nL, .ref nM, .ref oC, .ref oP, .ref oH, .ref oK, .ref oG, .ref oR, .ref oQ, .ref oW, .int fa])), (oC, .inr (2, [.ref o4, .ref o5])), (o5, .inr (10, [.ref a51, .ref a52, .ref a53, .int lt_2])), (a51, .inl (cI, 256, .inl ft1_2)), (a53, .inl (cI, 512, .inl ft3_2)), (oW, .inr (1, [.ref oC, .ref oK, .ref nw, .ref w1, .ref w2, .ref w3, .ref o7, .ref o8, .ref o9, .ref w4, .ref w5, .ref w6, .ref w7, .int ke, .int tl, .int fsh_3, .int wi, .int ri, .int fm, .int lm]))]) [0, 1, 2, 3, 4, 5] (by decide +kernel) rfl
  rw [hQQ]
  exact W.zret (v := 1) (ty := .boolean) hx hb hr (rfl) (fun t ht hW => ⟨⟨1, 1, rfl, rfl, ⟨fsh_3, lt_2, ft1_2, ft3_2, by rw [ht]; exact hP9, hD9, hf3_0, rfl, hf2_0, hf2_1, hf2_2, hf3_1⟩⟩, hS.F ht⟩) hS.2.2 dX11_blank_27

end

/-! 59.a.rows -/
section
theorem dX12_span_0 : decode cX12_span 0 = .ok (.aload_n 0, 1) := by decide +kernel
theorem dX12_span_1 : decode cX12_span 1 = .ok (.iconst 0, 1) := by decide +kernel
theorem dX12_span_2 : decode cX12_span 2 = .ok (.putfield 85, 3) := by decide +kernel
theorem dX12_span_5 : decode cX12_span 5 = .ok (.aload_n 0, 1) := by decide +kernel
theorem dX12_span_6 : decode cX12_span 6 = .ok (.iconst (-1), 1) := by decide +kernel
theorem dX12_span_7 : decode cX12_span 7 = .ok (.putfield 55, 3) := by decide +kernel
theorem dX12_span_10 : decode cX12_span 10 = .ok (.iload_n 1, 1) := by decide +kernel
theorem dX12_span_11 : decode cX12_span 11 = .ok (.iconst 4, 1) := by decide +kernel
theorem dX12_span_12 : decode cX12_span 12 = .ok (.if_icmp .lt 59, 3) := by decide +kernel
theorem dX12_span_71 : decode cX12_span 71 = .ok (.iconst (-1), 1) := by decide +kernel
theorem dX12_span_72 : decode cX12_span 72 = .ok (.ireturn, 1) := by decide +kernel
theorem dX12_span_15 : decode cX12_span 15 = .ok (.iload_n 1, 1) := by decide +kernel
theorem dX12_span_16 : decode cX12_span 16 = .ok (.iconst 5, 1) := by decide +kernel
theorem dX12_span_17 : decode cX12_span 17 = .ok (.if_icmp .gt 54, 3) := by decide +kernel
theorem dX12_span_20 : decode cX12_span 20 = .ok (.iload_n 2, 1) := by decide +kernel
theorem dX12_span_21 : decode cX12_span 21 = .ok (.ifCond .lt 50, 3) := by decide +kernel
theorem dX12_span_24 : decode cX12_span 24 = .ok (.iload_n 2, 1) := by decide +kernel
theorem dX12_span_25 : decode cX12_span 25 = .ok (.sipush 255, 3) := by decide +kernel
theorem dX12_span_28 : decode cX12_span 28 = .ok (.if_icmp .gt 43, 3) := by decide +kernel
theorem dX12_span_31 : decode cX12_span 31 = .ok (.iload_n 3, 1) := by decide +kernel
theorem dX12_span_32 : decode cX12_span 32 = .ok (.iconst 1, 1) := by decide +kernel
theorem dX12_span_33 : decode cX12_span 33 = .ok (.if_icmp .lt 38, 3) := by decide +kernel
theorem dX12_span_36 : decode cX12_span 36 = .ok (.iload_n 3, 1) := by decide +kernel
theorem dX12_span_37 : decode cX12_span 37 = .ok (.sipush 256, 3) := by decide +kernel
theorem dX12_span_40 : decode cX12_span 40 = .ok (.iload_n 2, 1) := by decide +kernel
theorem dX12_span_41 : decode cX12_span 41 = .ok (.isub, 1) := by decide +kernel
theorem dX12_span_42 : decode cX12_span 42 = .ok (.if_icmp .gt 29, 3) := by decide +kernel
theorem dX12_span_45 : decode cX12_span 45 = .ok (.iload 5, 2) := by decide +kernel
theorem dX12_span_47 : decode cX12_span 47 = .ok (.sipush (-255), 3) := by decide +kernel
theorem dX12_span_50 : decode cX12_span 50 = .ok (.if_icmp .lt 21, 3) := by decide +kernel
theorem dX12_span_53 : decode cX12_span 53 = .ok (.iload 5, 2) := by decide +kernel
theorem dX12_span_55 : decode cX12_span 55 = .ok (.sipush 255, 3) := by decide +kernel
theorem dX12_span_58 : decode cX12_span 58 = .ok (.if_icmp .gt 13, 3) := by decide +kernel
theorem dX12_span_61 : decode cX12_span 61 = .ok (.iload_n 3, 1) := by decide +kernel
theorem dX12_span_62 : decode cX12_span 62 = .ok (.iconst 1, 1) := by decide +kernel
theorem dX12_span_63 : decode cX12_span 63 = .ok (.if_icmp .le 10, 3) := by decide +kernel
theorem dX12_span_73 : decode cX12_span 73 = .ok (.iload_n 1, 1) := by decide +kernel
theorem dX12_span_74 : decode cX12_span 74 = .ok (.iconst 4, 1) := by decide +kernel
theorem dX12_span_75 : decode cX12_span 75 = .ok (.isub, 1) := by decide +kernel
theorem dX12_span_76 : decode cX12_span 76 = .ok (.istore 6, 2) := by decide +kernel
theorem dX12_span_78 : decode cX12_span 78 = .ok (.iload 4, 2) := by decide +kernel
set_option maxRecDepth 20000 in
theorem ggX12_span_X12_isLetter : GoodIn wsX12_span wsX12_isLetter := goodIn_r _ [11, 5, 12, 13] rfl (by decide +kernel)
set_option maxRecDepth 20000 in
theorem gX12_span_X12_isLetter : GoodIn wsX12_span (va_wsS RX12 116 yX12_isLetter wsX12_isLetter) := goodIn_app (goodIn_r _ [8, 9, 10] rfl (by decide +kernel)) ggX12_span_X12_isLetter
theorem dX12_span_80 : decode cX12_span 80 = .ok (.invokestatic 116, 3) := by decide +kernel
theorem dX12_span_83 : decode cX12_span 83 = .ok (.ifCond .ne 5, 3) := by decide +kernel
theorem dX12_span_88 : decode cX12_span 88 = .ok (.iconst 0, 1) := by decide +kernel
theorem dX12_span_89 : decode cX12_span 89 = .ok (.istore 7, 2) := by decide +kernel
theorem dX12_span_91 : decode cX12_span 91 = .ok (.iload 7, 2) := by decide +kernel
theorem dX12_span_93 : decode cX12_span 93 = .ok (.iload_n 3, 1) := by decide +kernel
theorem dX12_span_94 : decode cX12_span 94 = .ok (.if_icmp .ge 66, 3) := by decide +kernel
theorem dX12_span_160 : decode cX12_span 160 = .ok (.iconst 0, 1) := by decide +kernel
theorem dX12_span_161 : decode cX12_span 161 = .ok (.istore 7, 2) := by decide +kernel
theorem dX12_span_163 : decode cX12_span 163 = .ok (.iload 7, 2) := by decide +kernel
theorem dX12_span_165 : decode cX12_span 165 = .ok (.iload_n 3, 1) := by decide +kernel
theorem dX12_span_166 : decode cX12_span 166 = .ok (.if_icmp .ge 57, 3) := by decide +kernel
theorem dX12_span_223 : decode cX12_span 223 = .ok (.aload_n 0, 1) := by decide +kernel
theorem dX12_span_224 : decode cX12_span 224 = .ok (.getfield 27, 3) := by decide +kernel
theorem dX12_span_227 : decode cX12_span 227 = .ok (.iload 6, 2) := by decide +kernel
theorem dX12_span_229 : decode cX12_span 229 = .ok (.dup2, 1) := by decide +kernel
theorem dX12_span_230 : decode cX12_span 230 = .ok (.iaload, 1) := by decide +kernel
theorem dX12_span_231 : decode cX12_span 231 = .ok (.iload_n 3, 1) := by decide +kernel
theorem dX12_span_232 : decode cX12_span 232 = .ok (.iadd, 1) := by decide +kernel
theorem dX12_span_233 : decode cX12_span 233 = .ok (.iastore, 1) := by decide +kernel
theorem dX12_span_234 : decode cX12_span 234 = .ok (.aload_n 0, 1) := by decide +kernel
theorem dX12_span_235 : decode cX12_span 235 = .ok (.dup, 1) := by decide +kernel
theorem dX12_span_236 : decode cX12_span 236 = .ok (.getfield 148, 3) := by decide +kernel
theorem dX12_span_239 : decode cX12_span 239 = .ok (.iconst 1, 1) := by decide +kernel
theorem dX12_span_240 : decode cX12_span 240 = .ok (.iadd, 1) := by decide +kernel
theorem dX12_span_241 : decode cX12_span 241 = .ok (.putfield 148, 3) := by decide +kernel
theorem dX12_span_244 : decode cX12_span 244 = .ok (.aload_n 0, 1) := by decide +kernel
theorem dX12_span_245 : decode cX12_span 245 = .ok (.getfield 27, 3) := by decide +kernel
theorem dX12_span_248 : decode cX12_span 248 = .ok (.iload 6, 2) := by decide +kernel
theorem dX12_span_250 : decode cX12_span 250 = .ok (.iaload, 1) := by decide +kernel
theorem dX12_span_251 : decode cX12_span 251 = .ok (.ireturn, 1) := by decide +kernel
theorem dX12_span_169 : decode cX12_span 169 = .ok (.aload_n 0, 1) := by decide +kernel
theorem dX12_span_170 : decode cX12_span 170 = .ok (.getfield 19, 3) := by decide +kernel
theorem dX12_span_173 : decode cX12_span 173 = .ok (.sipush 256, 3) := by decide +kernel
theorem dX12_span_176 : decode cX12_span 176 = .ok (.iload 6, 2) := by decide +kernel
theorem dX12_span_178 : decode cX12_span 178 = .ok (.imul, 1) := by decide +kernel
theorem dX12_span_179 : decode cX12_span 179 = .ok (.iload_n 2, 1) := by decide +kernel
theorem dX12_span_180 : decode cX12_span 180 = .ok (.iadd, 1) := by decide +kernel
theorem dX12_span_181 : decode cX12_span 181 = .ok (.iload 7, 2) := by decide +kernel
theorem dX12_span_183 : decode cX12_span 183 = .ok (.iadd, 1) := by decide +kernel
theorem dX12_span_184 : decode cX12_span 184 = .ok (.iload 4, 2) := by decide +kernel
theorem dX12_span_186 : decode cX12_span 186 = .ok (.iload 7, 2) := by decide +kernel
theorem dX12_span_188 : decode cX12_span 188 = .ok (.iload 5, 2) := by decide +kernel
theorem dX12_span_190 : decode cX12_span 190 = .ok (.imul, 1) := by decide +kernel
theorem dX12_span_191 : decode cX12_span 191 = .ok (.iadd, 1) := by decide +kernel
theorem dX12_span_192 : decode cX12_span 192 = .ok (.iastore, 1) := by decide +kernel
theorem dX12_span_193 : decode cX12_span 193 = .ok (.aload_n 0, 1) := by decide +kernel
theorem dX12_span_194 : decode cX12_span 194 = .ok (.getfield 23, 3) := by decide +kernel
theorem dX12_span_197 : decode cX12_span 197 = .ok (.ldc 88, 2) := by decide +kernel
theorem dX12_span_199 : decode cX12_span 199 = .ok (.iload 6, 2) := by decide +kernel
theorem dX12_span_201 : decode cX12_span 201 = .ok (.imul, 1) := by decide +kernel
theorem dX12_span_202 : decode cX12_span 202 = .ok (.iload 4, 2) := by decide +kernel
theorem dX12_span_204 : decode cX12_span 204 = .ok (.iadd, 1) := by decide +kernel
theorem dX12_span_205 : decode cX12_span 205 = .ok (.iload 7, 2) := by decide +kernel
theorem dX12_span_207 : decode cX12_span 207 = .ok (.iload 5, 2) := by decide +kernel
theorem dX12_span_209 : decode cX12_span 209 = .ok (.imul, 1) := by decide +kernel
theorem dX12_span_210 : decode cX12_span 210 = .ok (.iadd, 1) := by decide +kernel
theorem dX12_span_211 : decode cX12_span 211 = .ok (.iload_n 2, 1) := by decide +kernel
theorem dX12_span_212 : decode cX12_span 212 = .ok (.iload 7, 2) := by decide +kernel
theorem dX12_span_214 : decode cX12_span 214 = .ok (.iadd, 1) := by decide +kernel
theorem dX12_span_215 : decode cX12_span 215 = .ok (.i2s, 1) := by decide +kernel
theorem dX12_span_216 : decode cX12_span 216 = .ok (.sastore, 1) := by decide +kernel
theorem dX12_span_217 : decode cX12_span 217 = .ok (.iinc 7 1, 3) := by decide +kernel
theorem dX12_span_220 : decode cX12_span 220 = .ok (.goto (-57), 3) := by decide +kernel
theorem dX12_span_97 : decode cX12_span 97 = .ok (.iload 4, 2) := by decide +kernel
theorem dX12_span_99 : decode cX12_span 99 = .ok (.iload 7, 2) := by decide +kernel
theorem dX12_span_101 : decode cX12_span 101 = .ok (.iload 5, 2) := by decide +kernel
theorem dX12_span_103 : decode cX12_span 103 = .ok (.imul, 1) := by decide +kernel
theorem dX12_span_104 : decode cX12_span 104 = .ok (.iadd, 1) := by decide +kernel
theorem dX12_span_105 : decode cX12_span 105 = .ok (.istore 8, 2) := by decide +kernel
theorem dX12_span_107 : decode cX12_span 107 = .ok (.iload 8, 2) := by decide +kernel
theorem dX12_span_109 : decode cX12_span 109 = .ok (.invokestatic 116, 3) := by decide +kernel
theorem dX12_span_112 : decode cX12_span 112 = .ok (.ifCond .eq 40, 3) := by decide +kernel
theorem dX12_span_152 : decode cX12_span 152 = .ok (.iconst (-1), 1) := by decide +kernel
theorem dX12_span_153 : decode cX12_span 153 = .ok (.ireturn, 1) := by decide +kernel
theorem dX12_span_115 : decode cX12_span 115 = .ok (.aload_n 0, 1) := by decide +kernel
theorem dX12_span_116 : decode cX12_span 116 = .ok (.getfield 19, 3) := by decide +kernel
theorem dX12_span_119 : decode cX12_span 119 = .ok (.sipush 256, 3) := by decide +kernel
theorem dX12_span_122 : decode cX12_span 122 = .ok (.iload 6, 2) := by decide +kernel
theorem dX12_span_124 : decode cX12_span 124 = .ok (.imul, 1) := by decide +kernel
theorem dX12_span_125 : decode cX12_span 125 = .ok (.iload_n 2, 1) := by decide +kernel
theorem dX12_span_126 : decode cX12_span 126 = .ok (.iadd, 1) := by decide +kernel
theorem dX12_span_127 : decode cX12_span 127 = .ok (.iload 7, 2) := by decide +kernel
theorem dX12_span_129 : decode cX12_span 129 = .ok (.iadd, 1) := by decide +kernel
theorem dX12_span_130 : decode cX12_span 130 = .ok (.iaload, 1) := by decide +kernel
theorem dX12_span_131 : decode cX12_span 131 = .ok (.iconst (-1), 1) := by decide +kernel
theorem dX12_span_132 : decode cX12_span 132 = .ok (.if_icmp .ne 20, 3) := by decide +kernel
theorem dX12_span_135 : decode cX12_span 135 = .ok (.aload_n 0, 1) := by decide +kernel
theorem dX12_span_136 : decode cX12_span 136 = .ok (.getfield 23, 3) := by decide +kernel
theorem dX12_span_139 : decode cX12_span 139 = .ok (.ldc 88, 2) := by decide +kernel
theorem dX12_span_141 : decode cX12_span 141 = .ok (.iload 6, 2) := by decide +kernel
theorem dX12_span_143 : decode cX12_span 143 = .ok (.imul, 1) := by decide +kernel
theorem dX12_span_144 : decode cX12_span 144 = .ok (.iload 8, 2) := by decide +kernel
theorem dX12_span_146 : decode cX12_span 146 = .ok (.iadd, 1) := by decide +kernel
theorem dX12_span_147 : decode cX12_span 147 = .ok (.saload, 1) := by decide +kernel
theorem dX12_span_148 : decode cX12_span 148 = .ok (.iconst (-1), 1) := by decide +kernel
theorem dX12_span_149 : decode cX12_span 149 = .ok (.if_icmp .eq 5, 3) := by decide +kernel
theorem dX12_span_154 : decode cX12_span 154 = .ok (.iinc 7 1, 3) := by decide +kernel
theorem dX12_span_157 : decode cX12_span 157 = .ok (.goto (-66), 3) := by decide +kernel
theorem dX12_span_86 : decode cX12_span 86 = .ok (.iconst (-1), 1) := by decide +kernel
theorem dX12_span_87 : decode cX12_span 87 = .ok (.ireturn, 1) := by decide +kernel
theorem dX12_span_66 : decode cX12_span 66 = .ok (.iload 5, 2) := by decide +kernel
theorem dX12_span_68 : decode cX12_span 68 = .ok (.ifCond .ne 5, 3) := by decide +kernel
theorem dX12_blank_0 : decode cX12_blank 0 = .ok (.aload_n 0, 1) := by decide +kernel
theorem dX12_blank_1 : decode cX12_blank 1 = .ok (.iconst 0, 1) := by decide +kernel
theorem dX12_blank_2 : decode cX12_blank 2 = .ok (.putfield 85, 3) := by decide +kernel
theorem dX12_blank_5 : decode cX12_blank 5 = .ok (.iload_n 1, 1) := by decide +kernel
theorem dX12_blank_6 : decode cX12_blank 6 = .ok (.iconst 4, 1) := by decide +kernel
theorem dX12_blank_7 : decode cX12_blank 7 = .ok (.if_icmp .lt 8, 3) := by decide +kernel
theorem dX12_blank_15 : decode cX12_blank 15 = .ok (.iconst 0, 1) := by decide +kernel
theorem dX12_blank_16 : decode cX12_blank 16 = .ok (.ireturn, 1) := by decide +kernel
theorem dX12_blank_10 : decode cX12_blank 10 = .ok (.iload_n 1, 1) := by decide +kernel
theorem dX12_blank_11 : decode cX12_blank 11 = .ok (.iconst 5, 1) := by decide +kernel
theorem dX12_blank_12 : decode cX12_blank 12 = .ok (.if_icmp .le 5, 3) := by decide +kernel
theorem dX12_blank_17 : decode cX12_blank 17 = .ok (.iload_n 1, 1) := by decide +kernel
theorem dX12_blank_18 : decode cX12_blank 18 = .ok (.iconst 4, 1) := by decide +kernel
theorem dX12_blank_19 : decode cX12_blank 19 = .ok (.isub, 1) := by decide +kernel
theorem dX12_blank_20 : decode cX12_blank 20 = .ok (.istore_n 2, 1) := by decide +kernel
theorem dX12_blank_21 : decode cX12_blank 21 = .ok (.iconst 0, 1) := by decide +kernel
theorem dX12_blank_22 : decode cX12_blank 22 = .ok (.istore_n 3, 1) := by decide +kernel
theorem dX12_blank_23 : decode cX12_blank 23 = .ok (.iload_n 3, 1) := by decide +kernel
theorem dX12_blank_24 : decode cX12_blank 24 = .ok (.sipush 256, 3) := by decide +kernel
theorem dX12_blank_27 : decode cX12_blank 27 = .ok (.if_icmp .ge 22, 3) := by decide +kernel
theorem dX12_blank_49 : decode cX12_blank 49 = .ok (.iconst 0, 1) := by decide +kernel
theorem dX12_blank_50 : decode cX12_blank 50 = .ok (.istore_n 3, 1) := by decide +kernel
theorem dX12_blank_51 : decode cX12_blank 51 = .ok (.iload_n 3, 1) := by decide +kernel
theorem dX12_blank_52 : decode cX12_blank 52 = .ok (.ldc 88, 2) := by decide +kernel
theorem dX12_blank_54 : decode cX12_blank 54 = .ok (.if_icmp .ge 21, 3) := by decide +kernel
theorem dX12_blank_75 : decode cX12_blank 75 = .ok (.aload_n 0, 1) := by decide +kernel
theorem dX12_blank_76 : decode cX12_blank 76 = .ok (.getfield 27, 3) := by decide +kernel
theorem dX12_blank_79 : decode cX12_blank 79 = .ok (.iload_n 2, 1) := by decide +kernel
theorem dX12_blank_80 : decode cX12_blank 80 = .ok (.iconst 0, 1) := by decide +kernel
theorem dX12_blank_81 : decode cX12_blank 81 = .ok (.iastore, 1) := by decide +kernel
theorem dX12_blank_82 : decode cX12_blank 82 = .ok (.aload_n 0, 1) := by decide +kernel
theorem dX12_blank_83 : decode cX12_blank 83 = .ok (.dup, 1) := by decide +kernel
theorem dX12_blank_84 : decode cX12_blank 84 = .ok (.getfield 148, 3) := by decide +kernel
theorem dX12_blank_87 : decode cX12_blank 87 = .ok (.iconst 1, 1) := by decide +kernel
theorem dX12_blank_88 : decode cX12_blank 88 = .ok (.iadd, 1) := by decide +kernel
theorem dX12_blank_89 : decode cX12_blank 89 = .ok (.putfield 148, 3) := by decide +kernel
theorem dX12_blank_92 : decode cX12_blank 92 = .ok (.iconst 1, 1) := by decide +kernel
theorem dX12_blank_93 : decode cX12_blank 93 = .ok (.ireturn, 1) := by decide +kernel
theorem dX12_blank_57 : decode cX12_blank 57 = .ok (.aload_n 0, 1) := by decide +kernel
theorem dX12_blank_58 : decode cX12_blank 58 = .ok (.getfield 23, 3) := by decide +kernel
theorem dX12_blank_61 : decode cX12_blank 61 = .ok (.ldc 88, 2) := by decide +kernel
theorem dX12_blank_63 : decode cX12_blank 63 = .ok (.iload_n 2, 1) := by decide +kernel
theorem dX12_blank_64 : decode cX12_blank 64 = .ok (.imul, 1) := by decide +kernel
theorem dX12_blank_65 : decode cX12_blank 65 = .ok (.iload_n 3, 1) := by decide +kernel
theorem dX12_blank_66 : decode cX12_blank 66 = .ok (.iadd, 1) := by decide +kernel
theorem dX12_blank_67 : decode cX12_blank 67 = .ok (.iconst (-1), 1) := by decide +kernel
theorem dX12_blank_68 : decode cX12_blank 68 = .ok (.sastore, 1) := by decide +kernel
theorem dX12_blank_69 : decode cX12_blank 69 = .ok (.iinc 3 1, 3) := by decide +kernel
theorem dX12_blank_72 : decode cX12_blank 72 = .ok (.goto (-21), 3) := by decide +kernel
theorem dX12_blank_30 : decode cX12_blank 30 = .ok (.aload_n 0, 1) := by decide +kernel
theorem dX12_blank_31 : decode cX12_blank 31 = .ok (.getfield 19, 3) := by decide +kernel
theorem dX12_blank_34 : decode cX12_blank 34 = .ok (.sipush 256, 3) := by decide +kernel
theorem dX12_blank_37 : decode cX12_blank 37 = .ok (.iload_n 2, 1) := by decide +kernel
theorem dX12_blank_38 : decode cX12_blank 38 = .ok (.imul, 1) := by decide +kernel
theorem dX12_blank_39 : decode cX12_blank 39 = .ok (.iload_n 3, 1) := by decide +kernel
theorem dX12_blank_40 : decode cX12_blank 40 = .ok (.iadd, 1) := by decide +kernel
theorem dX12_blank_41 : decode cX12_blank 41 = .ok (.iconst (-1), 1) := by decide +kernel
theorem dX12_blank_42 : decode cX12_blank 42 = .ok (.iastore, 1) := by decide +kernel
theorem dX12_blank_43 : decode cX12_blank 43 = .ok (.iinc 3 1, 3) := by decide +kernel
theorem dX12_blank_46 : decode cX12_blank 46 = .ok (.goto (-23), 3) := by decide +kernel

end

/-! 59.told -/
section
set_option maxHeartbeats 40000000 in
set_option maxRecDepth 100000 in
theorem f_X12_span (l : Launch) (dC : Nat → ClassId) (dI : Nat → Nat → Nat) (cI cS : ClassId) (sz : Nat) (oM : Nat) (mT : Nat) (mS : Nat) (mX : Nat) (mL : Nat) (mB : Nat) (mD : Nat) (m1 : Nat) (m2 : Nat) (mR : Nat) (x1 : Nat) (x2 : Nat) (x3 : Nat) (mH : Nat) (mY : Nat) (mE : Nat) (mW : Nat) (mO : Nat) (y1 : Nat) (y2 : Nat) (y3 : Nat) (y4 : Nat) (mZ : Nat) (zt : Int32) (zp : Int32) (zf : Int32) (zh : Int32) (zr : Int32) (zc : Int32) (zy : Int32) (za : Int32) (zb : Int32) (zs : Int32) (zq : Int32) (zw : Int32) (ze : Int32) (zn : Int32) (zm : Int32) (zl : Int32) (zk : Int32) (zd : Int32) (eL : Nat → Int32) (eB : Nat → Int32) (eD : Nat → Int32) (cd : Int32) (fr : Int32) (n : Int32) (le : Int32) (sp : Int32) (g_zt : 0 ≤ zt.toInt ∧ zt.toInt ≤ 900) (g_zp : 0 ≤ zp.toInt ∧ zp.toInt ≤ 20) (g_zf : 0 ≤ zf.toInt ∧ zf.toInt ≤ 19) (g_zh : 0 ≤ zh.toInt ∧ zh.toInt ≤ 6) (g_zr : 0 ≤ zr.toInt ∧ zr.toInt ≤ 258) (g_zc : 0 ≤ zc.toInt ∧ zc.toInt ≤ 300) (g_zy : 0 ≤ zy.toInt ∧ zy.toInt ≤ 65536) (g_za : 0 ≤ za.toInt ∧ za.toInt ≤ 5) (g_zb : 0 ≤ zb.toInt ∧ zb.toInt ≤ 5) (g_zs : 0 ≤ zs.toInt ∧ zs.toInt ≤ 2000000) (g_zq : -1 ≤ zq.toInt ∧ zq.toInt ≤ 2000000) (g_zn : 0 ≤ zn.toInt ∧ zn.toInt ≤ 2600) (g_zm : 0 ≤ zm.toInt ∧ zm.toInt ≤ 2600) (g_zk : 0 ≤ zk.toInt ∧ zk.toInt ≤ 300) (g_eL : rg (-1) 65535 eL) (g_eB : rg (-1) 255 eB) (hzs : zs.toInt ≤ 1000000) : Met l yX12_span wsX12_span ({ frames := 1, cells := 0, slots := 0, locals := 20 } : Room) (va_Pc [.ref oM, .int cd, .int fr, .int n, .int le, .int sp] (fun U => U.heap.size = sz ∧ va_P (dC, dI) vwCl [(oM, .inr (12, [.ref mT, .int zt, .ref mS, .ref mX, .int zp, .int zf, .ref mL, .ref mB, .ref mD, .ref m1, .ref m2, .int zh, .ref mR, .int zr, .ref x1, .ref x2, .ref x3, .int zc, .ref mH, .int zy, .int za, .int zb, .int zs, .int zq, .int zw, .int ze, .ref mY, .int zn, .ref mE, .int zm, .int zl, .ref mW, .int zk, .ref mO, .int zd, .ref y1, .ref y2, .ref y3, .ref y4, .ref mZ])), (mL, .inl (cI, 512, .inl eL)), (mB, .inl (cS, 131072, .inl eB)), (mD, .inl (cI, 2, .inl eD))] U.heap ∧ va_K (dC, dI) vwCl [(cI, .int), (cS, .short)] U ∧ va_D (fun _ => True) [(oM, .inr (12, [.ref mT, .int zt, .ref mS, .ref mX, .int zp, .int zf, .ref mL, .ref mB, .ref mD, .ref m1, .ref m2, .int zh, .ref mR, .int zr, .ref x1, .ref x2, .ref x3, .int zc, .ref mH, .int zy, .int za, .int zb, .int zs, .int zq, .int zw, .int ze, .ref mY, .int zn, .ref mE, .int zm, .int zl, .ref mW, .int zk, .ref mO, .int zd, .ref y1, .ref y2, .ref y3, .ref y4, .ref mZ])), (mL, .inl (cI, 512, .inl eL)), (mB, .inl (cS, 131072, .inl eB)), (mD, .inl (cI, 2, .inl eD))])) (va_Qi (fun (r : Int32) (u : Int32) => r = u) (fun (r : Int32) t => ∃ (ze' : Int32) (zw' : Int32) (eL' : Nat → Int32) (eB' : Nat → Int32) (eD' : Nat → Int32) (zs' : Int32), va_P (dC, dI) vwCl [(oM, .inr (12, [.ref mT, .int zt, .ref mS, .ref mX, .int zp, .int zf, .ref mL, .ref mB, .ref mD, .ref m1, .ref m2, .int zh, .ref mR, .int zr, .ref x1, .ref x2, .ref x3, .int zc, .ref mH, .int zy, .int za, .int zb, .int zs', .int zq, .int zw', .int ze', .ref mY, .int zn, .ref mE, .int zm, .int zl, .ref mW, .int zk, .ref mO, .int zd, .ref y1, .ref y2, .ref y3, .ref y4, .ref mZ])), (mL, .inl (cI, 512, .inl eL')), (mB, .inl (cS, 131072, .inl eB')), (mD, .inl (cI, 2, .inl eD'))] t.heap ∧ va_D (va_A [(oM, .inr (12, [.ref mT, .int zt, .ref mS, .ref mX, .int zp, .int zf, .ref mL, .ref mB, .ref mD, .ref m1, .ref m2, .int zh, .ref mR, .int zr, .ref x1, .ref x2, .ref x3, .int zc, .ref mH, .int zy, .int za, .int zb, .int zs, .int zq, .int zw, .int ze, .ref mY, .int zn, .ref mE, .int zm, .int zl, .ref mW, .int zk, .ref mO, .int zd, .ref y1, .ref y2, .ref y3, .ref y4, .ref mZ])), (mL, .inl (cI, 512, .inl eL)), (mB, .inl (cS, 131072, .inl eB)), (mD, .inl (cI, 2, .inl eD))] sz) [(oM, .inr (12, [.ref mT, .int zt, .ref mS, .ref mX, .int zp, .int zf, .ref mL, .ref mB, .ref mD, .ref m1, .ref m2, .int zh, .ref mR, .int zr, .ref x1, .ref x2, .ref x3, .int zc, .ref mH, .int zy, .int za, .int zb, .int zs', .int zq, .int zw', .int ze', .ref mY, .int zn, .ref mE, .int zm, .int zl, .ref mW, .int zk, .ref mO, .int zd, .ref y1, .ref y2, .ref y3, .ref y4, .ref mZ])), (mL, .inl (cI, 512, .inl eL')), (mB, .inl (cS, 131072, .inl eB')), (mD, .inl (cI, 2, .inl eD'))] ∧ (rg (-1) 65535 eL') ∧ (rg (-1) 255 eB') ∧ (0 ≤ zs'.toInt ∧ zs'.toInt ≤ 2000000) ∧ (zs'.toInt ≤ zs.toInt + 1 ∧ zs.toInt ≤ zs'.toInt) ∧ (F_spanR r cd fr n le sp eL eL' eB eB' eD eD') ∧ (F_zsP (∃ t : Nat, cd.toInt = 4 + t ∧ t ≤ 1 ∧ CT fr n le sp (pL t eL) (pB t eB)) zs zs')) (va_A [(oM, .inr (12, [.ref mT, .int zt, .ref mS, .ref mX, .int zp, .int zf, .ref mL, .ref mB, .ref mD, .ref m1, .ref m2, .int zh, .ref mR, .int zr, .ref x1, .ref x2, .ref x3, .int zc, .ref mH, .int zy, .int za, .int zb, .int zs, .int zq, .int zw, .int ze, .ref mY, .int zn, .ref mE, .int zm, .int zl, .ref mW, .int zk, .ref mO, .int zd, .ref y1, .ref y2, .ref y3, .ref y4, .ref mZ])), (mL, .inl (cI, 512, .inl eL)), (mB, .inl (cS, 131072, .inl eB)), (mD, .inl (cI, 2, .inl eD))] sz)) 0 0 (va_A [(oM, .inr (12, [.ref mT, .int zt, .ref mS, .ref mX, .int zp, .int zf, .ref mL, .ref mB, .ref mD, .ref m1, .ref m2, .int zh, .ref mR, .int zr, .ref x1, .ref x2, .ref x3, .int zc, .ref mH, .int zy, .int za, .int zb, .int zs, .int zq, .int zw, .int ze, .ref mY, .int zn, .ref mE, .int zm, .int zl, .ref mW, .int zk, .ref mO, .int zd, .ref y1, .ref y2, .ref y3, .ref y4, .ref mZ])), (mL, .inl (cI, 512, .inl eL)), (mB, .inl (cS, 131072, .inl eB)), (mD, .inl (cI, 2, .inl eD))] sz) := by
  refine Met.ofW (cc := cX12_span) (maxL := 9) (ret := (some .int)) (by decide) rfl ?_
  intro p e s m args below meth c s₁ B hml hv
  obtain ⟨rfl, hsz, hP, hK, hD0⟩ := hv
  have hx := B.exec
  have hb := B.bytes
  have hr := B.returns
  have hts := atoms_spec (ws := wsX12_span) B.pre
  have hown : s.vm.findClass RX12 = some m.cls := findClass_of_methodNamed B.named
  have hlocks := B.notSynchronized
  have in_X12 : ∀ w ∈ wsX120, w ∈ wsX12_span := fun _ h => List.mem_cons_of_mem _ (List.mem_append_right _ (h))
  subst hsz
  have hD := hD0.self (sz := s.heap.size)
  generalize hAe : va_A [(oM, .inr (12, [.ref mT, .int zt, .ref mS, .ref mX, .int zp, .int zf, .ref mL, .ref mB, .ref mD, .ref m1, .ref m2, .int zh, .ref mR, .int zr, .ref x1, .ref x2, .ref x3, .int zc, .ref mH, .int zy, .int za, .int zb, .int zs, .int zq, .int zw, .int ze, .ref mY, .int zn, .ref mE, .int zm, .int zl, .ref mW, .int zk, .ref mO, .int zd, .ref y1, .ref y2, .ref y3, .ref y4, .ref mZ])), (mL, .inl (cI, 512, .inl eL)), (mB, .inl (cS, 131072, .inl eB)), (mD, .inl (cI, 2, .inl eD))] s.heap.size = A at hD ⊢
  have hA : ∀ q : Nat, s.heap.size ≤ q → A q := fun q h => by rw [← hAe]; exact Or.inr h
  have hS : va_S A s.heap s.heap [] := va_S.rf
  have hP : va_P (dC, dI) vwCl [(oM, .inr (12, [.ref mT, .int zt, .ref mS, .ref mX, .int zp, .int zf, .ref mL, .ref mB, .ref mD, .ref m1, .ref m2, .int zh, .ref mR, .int zr, .ref x1, .ref x2, .ref x3, .int zc, .ref mH, .int zy, .int za, .int zb, .int zs, .int zq, .int zw, .int ze, .ref mY, .int zn, .ref mE, .int zm, .int zl, .ref mW, .int zk, .ref mO, .int zd, .ref y1, .ref y2, .ref y3, .ref y4, .ref mZ])), (mL, .inl (cI, 512, .inl eL)), (mB, .inl (cS, 131072, .inl eB)), (mD, .inl (cI, 2, .inl eD))] s.heap := hP
  have hl := lv_entry ([.ref oM, .int cd, .int fr, .int n, .int le, .int sp]) (n := 9) (Nat.le_of_ble_eq_true rfl)
  rw [lg_entry_eq]
  generalize (lg_sl ([.ref oM, .int cd, .int fr, .int n, .int le, .int sp]) ++ List.replicate (9 - (lg_sl ([.ref oM, .int cd, .int fr, .int n, .int le, .int sp])).length) Slot.unset).toArray = ls at hl ⊢
  have hl : lv_has ls 9 [(0, .ref oM), (1, .int cd), (2, .int fr), (3, .int n), (4, .int le), (5, .int sp)] := hl
  obtain ⟨QQ, hQQ⟩ : ∃ QQ : Array Value → State → Outcome → State → Prop, QQ = va_Qi (fun (r : Int32) (u : Int32) => r = u) (fun (r : Int32) t => ∃ (ze' : Int32) (zw' : Int32) (eL' : Nat → Int32) (eB' : Nat → Int32) (eD' : Nat → Int32) (zs' : Int32), va_P (dC, dI) vwCl [(oM, .inr (12, [.ref mT, .int zt, .ref mS, .ref mX, .int zp, .int zf, .ref mL, .ref mB, .ref mD, .ref m1, .ref m2, .int zh, .ref mR, .int zr, .ref x1, .ref x2, .ref x3, .int zc, .ref mH, .int zy, .int za, .int zb, .int zs', .int zq, .int zw', .int ze', .ref mY, .int zn, .ref mE, .int zm, .int zl, .ref mW, .int zk, .ref mO, .int zd, .ref y1, .ref y2, .ref y3, .ref y4, .ref mZ])), (mL, .inl (cI, 512, .inl eL')), (mB, .inl (cS, 131072, .inl eB')), (mD, .inl (cI, 2, .inl eD'))] t.heap ∧ va_D A [(oM, .inr (12, [.ref mT, .int zt, .ref mS, .ref mX, .int zp, .int zf, .ref mL, .ref mB, .ref mD, .ref m1, .ref m2, .int zh, .ref mR, .int zr, .ref x1, .ref x2, .ref x3, .int zc, .ref mH, .int zy, .int za, .int zb, .int zs', .int zq, .int zw', .int ze', .ref mY, .int zn, .ref mE, .int zm, .int zl, .ref mW, .int zk, .ref mO, .int zd, .ref y1, .ref y2, .ref y3, .ref y4, .ref mZ])), (mL, .inl (cI, 512, .inl eL')), (mB, .inl (cS, 131072, .inl eB')), (mD, .inl (cI, 2, .inl eD'))] ∧ (rg (-1) 65535 eL') ∧ (rg (-1) 255 eB') ∧ (0 ≤ zs'.toInt ∧ zs'.toInt ≤ 2000000) ∧ (zs'.toInt ≤ zs.toInt + 1 ∧ zs.toInt ≤ zs'.toInt) ∧ (F_spanR r cd fr n le sp eL eL' eB eB' eD eD') ∧ (F_zsP (∃ t : Nat, cd.toInt = 4 + t ∧ t ≤ 1 ∧ CT fr n le sp (pL t eL) (pB t eB)) zs zs')) A := ⟨_, rfl⟩
  rw [← hQQ]
  refine lv_aload_n hx hb dX12_span_0 rfl (lv_at hl 0 rfl) ?_
  refine lv_iconst (v := 0) hx hb dX12_span_1 (by decide) ?_
  refine va_put (D := (dC, dI)) (ci := 12) (v := .int 0) (ty := .int) (C := RX12) (T := TX12) (N := 40) hx hb hts in_X12 tyX12 tyX12_ok nmX12 hown hK hP hD hS 0 rfl rfl 25 (by decide) (hts (.fieldLink RX12 85 "TextMenderModel" "thrown" "I") (List.mem_of_getElem? (i := 1) rfl)) (fun _ h9 => h9) rfl (by decide +kernel) rfl rfl (Nat.le_of_ble_eq_true rfl) dX12_span_2 (fun H locs hPn hDn hSn => ?_)
  clear hP hD hS
  have hP : va_P (dC, dI) vwCl [(oM, .inr (12, [.ref mT, .int zt, .ref mS, .ref mX, .int zp, .int zf, .ref mL, .ref mB, .ref mD, .ref m1, .ref m2, .int zh, .ref mR, .int zr, .ref x1, .ref x2, .ref x3, .int zc, .ref mH, .int zy, .int za, .int zb, .int zs, .int zq, .int zw, .int 0, .ref mY, .int zn, .ref mE, .int zm, .int zl, .ref mW, .int zk, .ref mO, .int zd, .ref y1, .ref y2, .ref y3, .ref y4, .ref mZ])), (mL, .inl (cI, 512, .inl eL)), (mB, .inl (cS, 131072, .inl eB)), (mD, .inl (cI, 2, .inl eD))] H := hPn
  have hD : va_D A [(oM, .inr (12, [.ref mT, .int zt, .ref mS, .ref mX, .int zp, .int zf, .ref mL, .ref mB, .ref mD, .ref m1, .ref m2, .int zh, .ref mR, .int zr, .ref x1, .ref x2, .ref x3, .int zc, .ref mH, .int zy, .int za, .int zb, .int zs, .int zq, .int zw, .int 0, .ref mY, .int zn, .ref mE, .int zm, .int zl, .ref mW, .int zk, .ref mO, .int zd, .ref y1, .ref y2, .ref y3, .ref y4, .ref mZ])), (mL, .inl (cI, 512, .inl eL)), (mB, .inl (cS, 131072, .inl eB)), (mD, .inl (cI, 2, .inl eD))] := hDn
  have hS := hSn
  clear hPn hDn hSn
  refine lv_aload_n hx hb dX12_span_5 rfl (lv_at hl 0 rfl) ?_
  refine lv_iconst (v := (-1)) hx hb dX12_span_6 (by decide) ?_
  refine va_put (D := (dC, dI)) (ci := 12) (v := .int (-1)) (ty := .int) (C := RX12) (T := TX12) (N := 40) hx hb hts in_X12 tyX12 tyX12_ok nmX12 hown hK hP hD hS 0 rfl rfl 24 (by decide) (hts (.fieldLink RX12 55 "TextMenderModel" "where" "I") (List.mem_of_getElem? (i := 2) rfl)) (fun _ h9 => h9) rfl (by decide +kernel) rfl rfl (Nat.le_of_ble_eq_true rfl) dX12_span_7 (fun H locs hPn hDn hSn => ?_)
  clear hP hD hS
  have hP : va_P (dC, dI) vwCl [(oM, .inr (12, [.ref mT, .int zt, .ref mS, .ref mX, .int zp, .int zf, .ref mL, .ref mB, .ref mD, .ref m1, .ref m2, .int zh, .ref mR, .int zr, .ref x1, .ref x2, .ref x3, .int zc, .ref mH, .int zy, .int za, .int zb, .int zs, .int zq, .int (-1), .int 0, .ref mY, .int zn, .ref mE, .int zm, .int zl, .ref mW, .int zk, .ref mO, .int zd, .ref y1, .ref y2, .ref y3, .ref y4, .ref mZ])), (mL, .inl (cI, 512, .inl eL)), (mB, .inl (cS, 131072, .inl eB)), (mD, .inl (cI, 2, .inl eD))] H := hPn
  have hD : va_D A [(oM, .inr (12, [.ref mT, .int zt, .ref mS, .ref mX, .int zp, .int zf, .ref mL, .ref mB, .ref mD, .ref m1, .ref m2, .int zh, .ref mR, .int zr, .ref x1, .ref x2, .ref x3, .int zc, .ref mH, .int zy, .int za, .int zb, .int zs, .int zq, .int (-1), .int 0, .ref mY, .int zn, .ref mE, .int zm, .int zl, .ref mW, .int zk, .ref mO, .int zd, .ref y1, .ref y2, .ref y3, .ref y4, .ref mZ])), (mL, .inl (cI, 512, .inl eL)), (mB, .inl (cS, 131072, .inl eB)), (mD, .inl (cI, 2, .inl eD))] := hDn
  have hS := hSn
  clear hPn hDn hSn
  refine lv_iload_n hx hb dX12_span_10 rfl (lv_at hl 1 rfl) ?_
  refine lv_iconst (v := 4) hx hb dX12_span_11 (by decide) ?_
  refine lv_icmp_lt (tgt := 71) hx hb dX12_span_12 (by decide) (fun c_1 => ?_) (fun c_1 => ?_)
  · have tc_1 : cd.toInt < 4 := v_lt c_1
    refine lv_iconst (v := (-1)) hx hb dX12_span_71 (by decide) ?_
    have hP9 := hP.sub (ws' := [(oM, .inr (12, [.ref mT, .int zt, .ref mS, .ref mX, .int zp, .int zf, .ref mL, .ref mB, .ref mD, .ref m1, .ref m2, .int zh, .ref mR, .int zr, .ref x1, .ref x2, .ref x3, .int zc, .ref mH, .int zy, .int za, .int zb, .int zs, .int zq, .int (-1), .int 0, .ref mY, .int zn, .ref mE, .int zm, .int zl, .ref mW, .int zk, .ref mO, .int zd, .ref y1, .ref y2, .ref y3, .ref y4, .ref mZ])), (mL, .inl (cI, 512, .inl eL)), (mB, .inl (cS, 131072, .inl eB)), (mD, .inl (cI, 2, .inl eD))]) [0, 1, 2, 3] rfl
    have hD9 := hD.sub (ws' := [(oM, .inr (12, [.ref mT, .int zt, .ref mS, .ref mX, .int zp, .int zf, .ref mL, .ref mB, .ref mD, .ref m1, .ref m2, .int zh, .ref mR, .int zr, .ref x1, .ref x2, .ref x3, .int zc, .ref mH, .int zy, .int za, .int zb, .int zs, .int zq, .int (-1), .int 0, .ref mY, .int zn, .ref mE, .int zm, .int zl, .ref mW, .int zk, .ref mO, .int zd, .ref y1, .ref y2, .ref y3, .ref y4, .ref mZ])), (mL, .inl (cI, 512, .inl eL)), (mB, .inl (cS, 131072, .inl eB)), (mD, .inl (cI, 2, .inl eD))]) [0, 1, 2, 3] (by decide +kernel) rfl
    rw [hQQ]
    exact W.iret (v := (-1)) hx hb hr (fun t ht hW => ⟨⟨(-1), (-1), rfl, rfl, ⟨0, (-1), eL, eB, eD, zs, by rw [ht]; exact hP9, hD9, g_eL, g_eB, g_zs, by show zs.toInt ≤ zs.toInt + 1 ∧ zs.toInt ≤ zs.toInt; omega, Or.inr ⟨rfl, rfl, rfl, rfl, fun t h1 h2 c => by have c1 := c.1; unfold isLz at c1; omega⟩, Or.inr ⟨fun ⟨t9, z1, z2, z3⟩ => (fun t h1 h2 c => by have c1 := c.1; unfold isLz at c1; omega) t9 z1 z2 z3, rfl⟩⟩⟩, hS.F ht⟩) hS.2.2 dX12_span_72
  · have tc_1 : 4 ≤ cd.toInt := v_nlt c_1
    refine lv_iload_n hx hb dX12_span_15 rfl (lv_at hl 1 rfl) ?_
    refine lv_iconst (v := 5) hx hb dX12_span_16 (by decide) ?_
    refine lv_icmp_gt (tgt := 71) hx hb dX12_span_17 (by decide) (fun c_2 => ?_) (fun c_2 => ?_)
    · have tc_2 : 5 < cd.toInt := v_lt c_2
      refine lv_iconst (v := (-1)) hx hb dX12_span_71 (by decide) ?_
      have hP9 := hP.sub (ws' := [(oM, .inr (12, [.ref mT, .int zt, .ref mS, .ref mX, .int zp, .int zf, .ref mL, .ref mB, .ref mD, .ref m1, .ref m2, .int zh, .ref mR, .int zr, .ref x1, .ref x2, .ref x3, .int zc, .ref mH, .int zy, .int za, .int zb, .int zs, .int zq, .int (-1), .int 0, .ref mY, .int zn, .ref mE, .int zm, .int zl, .ref mW, .int zk, .ref mO, .int zd, .ref y1, .ref y2, .ref y3, .ref y4, .ref mZ])), (mL, .inl (cI, 512, .inl eL)), (mB, .inl (cS, 131072, .inl eB)), (mD, .inl (cI, 2, .inl eD))]) [0, 1, 2, 3] rfl
      have hD9 := hD.sub (ws' := [(oM, .inr (12, [.ref mT, .int zt, .ref mS, .ref mX, .int zp, .int zf, .ref mL, .ref mB, .ref mD, .ref m1, .ref m2, .int zh, .ref mR, .int zr, .ref x1, .ref x2, .ref x3, .int zc, .ref mH, .int zy, .int za, .int zb, .int zs, .int zq, .int (-1), .int 0, .ref mY, .int zn, .ref mE, .int zm, .int zl, .ref mW, .int zk, .ref mO, .int zd, .ref y1, .ref y2, .ref y3, .ref y4, .ref mZ])), (mL, .inl (cI, 512, .inl eL)), (mB, .inl (cS, 131072, .inl eB)), (mD, .inl (cI, 2, .inl eD))]) [0, 1, 2, 3] (by decide +kernel) rfl
      rw [hQQ]
      exact W.iret (v := (-1)) hx hb hr (fun t ht hW => ⟨⟨(-1), (-1), rfl, rfl, ⟨0, (-1), eL, eB, eD, zs, by rw [ht]; exact hP9, hD9, g_eL, g_eB, g_zs, by show zs.toInt ≤ zs.toInt + 1 ∧ zs.toInt ≤ zs.toInt; omega, Or.inr ⟨rfl, rfl, rfl, rfl, fun t h1 h2 c => by have c1 := c.1; unfold isLz at c1; omega⟩, Or.inr ⟨fun ⟨t9, z1, z2, z3⟩ => (fun t h1 h2 c => by have c1 := c.1; unfold isLz at c1; omega) t9 z1 z2 z3, rfl⟩⟩⟩, hS.F ht⟩) hS.2.2 dX12_span_72
    · have tc_2 : cd.toInt ≤ 5 := v_nlt c_2
      refine lv_iload_n hx hb dX12_span_20 rfl (lv_at hl 2 rfl) ?_
      refine lv_if_lt (tgt := 71) hx hb dX12_span_21 (by decide) (fun c_3 => ?_) (fun c_3 => ?_)
      · have tc_3 : fr.toInt < 0 := v_lt c_3
        refine lv_iconst (v := (-1)) hx hb dX12_span_71 (by decide) ?_
        have hP9 := hP.sub (ws' := [(oM, .inr (12, [.ref mT, .int zt, .ref mS, .ref mX, .int zp, .int zf, .ref mL, .ref mB, .ref mD, .ref m1, .ref m2, .int zh, .ref mR, .int zr, .ref x1, .ref x2, .ref x3, .int zc, .ref mH, .int zy, .int za, .int zb, .int zs, .int zq, .int (-1), .int 0, .ref mY, .int zn, .ref mE, .int zm, .int zl, .ref mW, .int zk, .ref mO, .int zd, .ref y1, .ref y2, .ref y3, .ref y4, .ref mZ])), (mL, .inl (cI, 512, .inl eL)), (mB, .inl (cS, 131072, .inl eB)), (mD, .inl (cI, 2, .inl eD))]) [0, 1, 2, 3] rfl
        have hD9 := hD.sub (ws' := [(oM, .inr (12, [.ref mT, .int zt, .ref mS, .ref mX, .int zp, .int zf, .ref mL, .ref mB, .ref mD, .ref m1, .ref m2, .int zh, .ref mR, .int zr, .ref x1, .ref x2, .ref x3, .int zc, .ref mH, .int zy, .int za, .int zb, .int zs, .int zq, .int (-1), .int 0, .ref mY, .int zn, .ref mE, .int zm, .int zl, .ref mW, .int zk, .ref mO, .int zd, .ref y1, .ref y2, .ref y3, .ref y4, .ref mZ])), (mL, .inl (cI, 512, .inl eL)), (mB, .inl (cS, 131072, .inl eB)), (mD, .inl (cI, 2, .inl eD))]) [0, 1, 2, 3] (by decide +kernel) rfl
        rw [hQQ]
        exact W.iret (v := (-1)) hx hb hr (fun t ht hW => ⟨⟨(-1), (-1), rfl, rfl, ⟨0, (-1), eL, eB, eD, zs, by rw [ht]; exact hP9, hD9, g_eL, g_eB, g_zs, by show zs.toInt ≤ zs.toInt + 1 ∧ zs.toInt ≤ zs.toInt; omega, Or.inr ⟨rfl, rfl, rfl, rfl, fun t h1 h2 c => by have c1 := c.1; unfold isLz at c1; omega⟩, Or.inr ⟨fun ⟨t9, z1, z2, z3⟩ => (fun t h1 h2 c => by have c1 := c.1; unfold isLz at c1; omega) t9 z1 z2 z3, rfl⟩⟩⟩, hS.F ht⟩) hS.2.2 dX12_span_72
      · have tc_3 : 0 ≤ fr.toInt := v_nlt c_3
        refine lv_iload_n hx hb dX12_span_24 rfl (lv_at hl 2 rfl) ?_
        refine lv_sipush (v := 255) hx hb dX12_span_25 (by decide) ?_
        refine lv_icmp_gt (tgt := 71) hx hb dX12_span_28 (by decide) (fun c_4 => ?_) (fun c_4 => ?_)
        · have tc_4 : 255 < fr.toInt := v_lt c_4
          refine lv_iconst (v := (-1)) hx hb dX12_span_71 (by decide) ?_
          have hP9 := hP.sub (ws' := [(oM, .inr (12, [.ref mT, .int zt, .ref mS, .ref mX, .int zp, .int zf, .ref mL, .ref mB, .ref mD, .ref m1, .ref m2, .int zh, .ref mR, .int zr, .ref x1, .ref x2, .ref x3, .int zc, .ref mH, .int zy, .int za, .int zb, .int zs, .int zq, .int (-1), .int 0, .ref mY, .int zn, .ref mE, .int zm, .int zl, .ref mW, .int zk, .ref mO, .int zd, .ref y1, .ref y2, .ref y3, .ref y4, .ref mZ])), (mL, .inl (cI, 512, .inl eL)), (mB, .inl (cS, 131072, .inl eB)), (mD, .inl (cI, 2, .inl eD))]) [0, 1, 2, 3] rfl
          have hD9 := hD.sub (ws' := [(oM, .inr (12, [.ref mT, .int zt, .ref mS, .ref mX, .int zp, .int zf, .ref mL, .ref mB, .ref mD, .ref m1, .ref m2, .int zh, .ref mR, .int zr, .ref x1, .ref x2, .ref x3, .int zc, .ref mH, .int zy, .int za, .int zb, .int zs, .int zq, .int (-1), .int 0, .ref mY, .int zn, .ref mE, .int zm, .int zl, .ref mW, .int zk, .ref mO, .int zd, .ref y1, .ref y2, .ref y3, .ref y4, .ref mZ])), (mL, .inl (cI, 512, .inl eL)), (mB, .inl (cS, 131072, .inl eB)), (mD, .inl (cI, 2, .inl eD))]) [0, 1, 2, 3] (by decide +kernel) rfl
          rw [hQQ]
          exact W.iret (v := (-1)) hx hb hr (fun t ht hW => ⟨⟨(-1), (-1), rfl, rfl, ⟨0, (-1), eL, eB, eD, zs, by rw [ht]; exact hP9, hD9, g_eL, g_eB, g_zs, by show zs.toInt ≤ zs.toInt + 1 ∧ zs.toInt ≤ zs.toInt; omega, Or.inr ⟨rfl, rfl, rfl, rfl, fun t h1 h2 c => by have c1 := c.1; unfold isLz at c1; omega⟩, Or.inr ⟨fun ⟨t9, z1, z2, z3⟩ => (fun t h1 h2 c => by have c1 := c.1; unfold isLz at c1; omega) t9 z1 z2 z3, rfl⟩⟩⟩, hS.F ht⟩) hS.2.2 dX12_span_72
        · have tc_4 : fr.toInt ≤ 255 := v_nlt c_4
          refine lv_iload_n hx hb dX12_span_31 rfl (lv_at hl 3 rfl) ?_
          refine lv_iconst (v := 1) hx hb dX12_span_32 (by decide) ?_
          refine lv_icmp_lt (tgt := 71) hx hb dX12_span_33 (by decide) (fun c_5 => ?_) (fun c_5 => ?_)
          · have tc_5 : n.toInt < 1 := v_lt c_5
            refine lv_iconst (v := (-1)) hx hb dX12_span_71 (by decide) ?_
            have hP9 := hP.sub (ws' := [(oM, .inr (12, [.ref mT, .int zt, .ref mS, .ref mX, .int zp, .int zf, .ref mL, .ref mB, .ref mD, .ref m1, .ref m2, .int zh, .ref mR, .int zr, .ref x1, .ref x2, .ref x3, .int zc, .ref mH, .int zy, .int za, .int zb, .int zs, .int zq, .int (-1), .int 0, .ref mY, .int zn, .ref mE, .int zm, .int zl, .ref mW, .int zk, .ref mO, .int zd, .ref y1, .ref y2, .ref y3, .ref y4, .ref mZ])), (mL, .inl (cI, 512, .inl eL)), (mB, .inl (cS, 131072, .inl eB)), (mD, .inl (cI, 2, .inl eD))]) [0, 1, 2, 3] rfl
            have hD9 := hD.sub (ws' := [(oM, .inr (12, [.ref mT, .int zt, .ref mS, .ref mX, .int zp, .int zf, .ref mL, .ref mB, .ref mD, .ref m1, .ref m2, .int zh, .ref mR, .int zr, .ref x1, .ref x2, .ref x3, .int zc, .ref mH, .int zy, .int za, .int zb, .int zs, .int zq, .int (-1), .int 0, .ref mY, .int zn, .ref mE, .int zm, .int zl, .ref mW, .int zk, .ref mO, .int zd, .ref y1, .ref y2, .ref y3, .ref y4, .ref mZ])), (mL, .inl (cI, 512, .inl eL)), (mB, .inl (cS, 131072, .inl eB)), (mD, .inl (cI, 2, .inl eD))]) [0, 1, 2, 3] (by decide +kernel) rfl
            rw [hQQ]
            exact W.iret (v := (-1)) hx hb hr (fun t ht hW => ⟨⟨(-1), (-1), rfl, rfl, ⟨0, (-1), eL, eB, eD, zs, by rw [ht]; exact hP9, hD9, g_eL, g_eB, g_zs, by show zs.toInt ≤ zs.toInt + 1 ∧ zs.toInt ≤ zs.toInt; omega, Or.inr ⟨rfl, rfl, rfl, rfl, fun t h1 h2 c => by have c1 := c.1; unfold isLz at c1; omega⟩, Or.inr ⟨fun ⟨t9, z1, z2, z3⟩ => (fun t h1 h2 c => by have c1 := c.1; unfold isLz at c1; omega) t9 z1 z2 z3, rfl⟩⟩⟩, hS.F ht⟩) hS.2.2 dX12_span_72
          · have tc_5 : 1 ≤ n.toInt := v_nlt c_5
            refine lv_iload_n hx hb dX12_span_36 rfl (lv_at hl 3 rfl) ?_
            refine lv_sipush (v := 256) hx hb dX12_span_37 (by decide) ?_
            refine lv_iload_n hx hb dX12_span_40 rfl (lv_at hl 2 rfl) ?_
            refine lv_isub hx hb dX12_span_41 ?_
            refine lv_topi (fun x_6 ex_6 => ?_)
            have tx_6 : x_6.toInt = 256 - fr.toInt := v_sub ex_6 (by show -2147483648 ≤ 256 - fr.toInt; omega) (by show 256 - fr.toInt < 2147483648; omega)
            refine lv_icmp_gt (tgt := 71) hx hb dX12_span_42 (by decide) (fun c_7 => ?_) (fun c_7 => ?_)
            · have tc_7 : x_6.toInt < n.toInt := v_lt c_7
              have rw7_0 := v_rng n
              refine lv_iconst (v := (-1)) hx hb dX12_span_71 (by decide) ?_
              have hP9 := hP.sub (ws' := [(oM, .inr (12, [.ref mT, .int zt, .ref mS, .ref mX, .int zp, .int zf, .ref mL, .ref mB, .ref mD, .ref m1, .ref m2, .int zh, .ref mR, .int zr, .ref x1, .ref x2, .ref x3, .int zc, .ref mH, .int zy, .int za, .int zb, .int zs, .int zq, .int (-1), .int 0, .ref mY, .int zn, .ref mE, .int zm, .int zl, .ref mW, .int zk, .ref mO, .int zd, .ref y1, .ref y2, .ref y3, .ref y4, .ref mZ])), (mL, .inl (cI, 512, .inl eL)), (mB, .inl (cS, 131072, .inl eB)), (mD, .inl (cI, 2, .inl eD))]) [0, 1, 2, 3] rfl
              have hD9 := hD.sub (ws' := [(oM, .inr (12, [.ref mT, .int zt, .ref mS, .ref mX, .int zp, .int zf, .ref mL, .ref mB, .ref mD, .ref m1, .ref m2, .int zh, .ref mR, .int zr, .ref x1, .ref x2, .ref x3, .int zc, .ref mH, .int zy, .int za, .int zb, .int zs, .int zq, .int (-1), .int 0, .ref mY, .int zn, .ref mE, .int zm, .int zl, .ref mW, .int zk, .ref mO, .int zd, .ref y1, .ref y2, .ref y3, .ref y4, .ref mZ])), (mL, .inl (cI, 512, .inl eL)), (mB, .inl (cS, 131072, .inl eB)), (mD, .inl (cI, 2, .inl eD))]) [0, 1, 2, 3] (by decide +kernel) rfl
              rw [hQQ]
              exact W.iret (v := (-1)) hx hb hr (fun t ht hW => ⟨⟨(-1), (-1), rfl, rfl, ⟨0, (-1), eL, eB, eD, zs, by rw [ht]; exact hP9, hD9, g_eL, g_eB, g_zs, by show zs.toInt ≤ zs.toInt + 1 ∧ zs.toInt ≤ zs.toInt; omega, Or.inr ⟨rfl, rfl, rfl, rfl, fun t h1 h2 c => by have c1 := c.1; unfold isLz at c1; omega⟩, Or.inr ⟨fun ⟨t9, z1, z2, z3⟩ => (fun t h1 h2 c => by have c1 := c.1; unfold isLz at c1; omega) t9 z1 z2 z3, rfl⟩⟩⟩, hS.F ht⟩) hS.2.2 dX12_span_72
            · have tc_7 : n.toInt ≤ x_6.toInt := v_nlt c_7
              have rw7_0 := v_rng n
              refine lv_iload hx hb dX12_span_45 (lv_at hl 5 rfl) ?_
              refine lv_sipush (v := (-255)) hx hb dX12_span_47 (by decide) ?_
              refine lv_icmp_lt (tgt := 71) hx hb dX12_span_50 (by decide) (fun c_8 => ?_) (fun c_8 => ?_)
              · have tc_8 : sp.toInt < (-255) := v_lt c_8
                refine lv_iconst (v := (-1)) hx hb dX12_span_71 (by decide) ?_
                have hP9 := hP.sub (ws' := [(oM, .inr (12, [.ref mT, .int zt, .ref mS, .ref mX, .int zp, .int zf, .ref mL, .ref mB, .ref mD, .ref m1, .ref m2, .int zh, .ref mR, .int zr, .ref x1, .ref x2, .ref x3, .int zc, .ref mH, .int zy, .int za, .int zb, .int zs, .int zq, .int (-1), .int 0, .ref mY, .int zn, .ref mE, .int zm, .int zl, .ref mW, .int zk, .ref mO, .int zd, .ref y1, .ref y2, .ref y3, .ref y4, .ref mZ])), (mL, .inl (cI, 512, .inl eL)), (mB, .inl (cS, 131072, .inl eB)), (mD, .inl (cI, 2, .inl eD))]) [0, 1, 2, 3] rfl
                have hD9 := hD.sub (ws' := [(oM, .inr (12, [.ref mT, .int zt, .ref mS, .ref mX, .int zp, .int zf, .ref mL, .ref mB, .ref mD, .ref m1, .ref m2, .int zh, .ref mR, .int zr, .ref x1, .ref x2, .ref x3, .int zc, .ref mH, .int zy, .int za, .int zb, .int zs, .int zq, .int (-1), .int 0, .ref mY, .int zn, .ref mE, .int zm, .int zl, .ref mW, .int zk, .ref mO, .int zd, .ref y1, .ref y2, .ref y3, .ref y4, .ref mZ])), (mL, .inl (cI, 512, .inl eL)), (mB, .inl (cS, 131072, .inl eB)), (mD, .inl (cI, 2, .inl eD))]) [0, 1, 2, 3] (by decide +kernel) rfl
                rw [hQQ]
                exact W.iret (v := (-1)) hx hb hr (fun t ht hW => ⟨⟨(-1), (-1), rfl, rfl, ⟨0, (-1), eL, eB, eD, zs, by rw [ht]; exact hP9, hD9, g_eL, g_eB, g_zs, by show zs.toInt ≤ zs.toInt + 1 ∧ zs.toInt ≤ zs.toInt; omega, Or.inr ⟨rfl, rfl, rfl, rfl, fun t h1 h2 c => by have c1 := c.1; unfold isLz at c1; omega⟩, Or.inr ⟨fun ⟨t9, z1, z2, z3⟩ => (fun t h1 h2 c => by have c1 := c.1; unfold isLz at c1; omega) t9 z1 z2 z3, rfl⟩⟩⟩, hS.F ht⟩) hS.2.2 dX12_span_72
              · have tc_8 : (-255) ≤ sp.toInt := v_nlt c_8
                refine lv_iload hx hb dX12_span_53 (lv_at hl 5 rfl) ?_
                refine lv_sipush (v := 255) hx hb dX12_span_55 (by decide) ?_
                refine lv_icmp_gt (tgt := 71) hx hb dX12_span_58 (by decide) (fun c_9 => ?_) (fun c_9 => ?_)
                · have tc_9 : 255 < sp.toInt := v_lt c_9
                  refine lv_iconst (v := (-1)) hx hb dX12_span_71 (by decide) ?_
                  have hP9 := hP.sub (ws' := [(oM, .inr (12, [.ref mT, .int zt, .ref mS, .ref mX, .int zp, .int zf, .ref mL, .ref mB, .ref mD, .ref m1, .ref m2, .int zh, .ref mR, .int zr, .ref x1, .ref x2, .ref x3, .int zc, .ref mH, .int zy, .int za, .int zb, .int zs, .int zq, .int (-1), .int 0, .ref mY, .int zn, .ref mE, .int zm, .int zl, .ref mW, .int zk, .ref mO, .int zd, .ref y1, .ref y2, .ref y3, .ref y4, .ref mZ])), (mL, .inl (cI, 512, .inl eL)), (mB, .inl (cS, 131072, .inl eB)), (mD, .inl (cI, 2, .inl eD))]) [0, 1, 2, 3] rfl
                  have hD9 := hD.sub (ws' := [(oM, .inr (12, [.ref mT, .int zt, .ref mS, .ref mX, .int zp, .int zf, .ref mL, .ref mB, .ref mD, .ref m1, .ref m2, .int zh, .ref mR, .int zr, .ref x1, .ref x2, .ref x3, .int zc, .ref mH, .int zy, .int za, .int zb, .int zs, .int zq, .int (-1), .int 0, .ref mY, .int zn, .ref mE, .int zm, .int zl, .ref mW, .int zk, .ref mO, .int zd, .ref y1, .ref y2, .ref y3, .ref y4, .ref mZ])), (mL, .inl (cI, 512, .inl eL)), (mB, .inl (cS, 131072, .inl eB)), (mD, .inl (cI, 2, .inl eD))]) [0, 1, 2, 3] (by decide +kernel) rfl
                  rw [hQQ]
                  exact W.iret (v := (-1)) hx hb hr (fun t ht hW => ⟨⟨(-1), (-1), rfl, rfl, ⟨0, (-1), eL, eB, eD, zs, by rw [ht]; exact hP9, hD9, g_eL, g_eB, g_zs, by show zs.toInt ≤ zs.toInt + 1 ∧ zs.toInt ≤ zs.toInt; omega, Or.inr ⟨rfl, rfl, rfl, rfl, fun t h1 h2 c => by have c1 := c.1; unfold isLz at c1; omega⟩, Or.inr ⟨fun ⟨t9, z1, z2, z3⟩ => (fun t h1 h2 c => by have c1 := c.1; unfold isLz at c1; omega) t9 z1 z2 z3, rfl⟩⟩⟩, hS.F ht⟩) hS.2.2 dX12_span_72
                · have tc_9 : sp.toInt ≤ 255 := v_nlt c_9
                  refine lv_iload_n hx hb dX12_span_61 rfl (lv_at hl 3 rfl) ?_
                  refine lv_iconst (v := 1) hx hb dX12_span_62 (by decide) ?_
                  refine lv_icmp_le (tgt := 73) hx hb dX12_span_63 (by decide) (fun c_10 => ?_) (fun c_10 => ?_)
                  · have tc_10 : n.toInt ≤ 1 := v_le c_10
                    refine lv_iload_n hx hb dX12_span_73 rfl (lv_at hl 1 rfl) ?_
                    refine lv_iconst (v := 4) hx hb dX12_span_74 (by decide) ?_
                    refine lv_isub hx hb dX12_span_75 ?_
                    refine lv_topi (fun x_11 ex_11 => ?_)
                    have tx_11 : x_11.toInt = cd.toInt - 4 := v_sub ex_11 (by show -2147483648 ≤ cd.toInt - 4; omega) (by show cd.toInt - 4 < 2147483648; omega)
                    refine lv_istore (lv' := [(6, .int x_11), (0, .ref oM), (1, .int cd), (2, .int fr), (3, .int n), (4, .int le), (5, .int sp)]) hx hb dX12_span_76 hl (by decide) rfl (fun ls hl => ?_)
                    refine lv_iload hx hb dX12_span_78 (lv_at hl 5 rfl) ?_
                    have hPc := hP.sub (ws' := []) [] rfl
                    have hDc := hD.sub (ws' := []) [] (by decide +kernel) rfl
                    have hFc := va_free (wc := []) hD hS hA [] rfl
                    refine va_calli (va_runS (As := [.int le]) (rest := []) ⟨hx, hb, hml, hown, hts⟩ (m_X12_isLetter l dC dI cI cS H.size le ) (va_cwS 1 hts gX12_span_X12_isLetter rfl rfl rfl (by decide +kernel) ⟨Nat.le_of_ble_eq_true rfl, Nat.le_of_ble_eq_true rfl⟩) ⟨fun a U g mk q => by obtain ⟨q0, q1, qP, qK, qD⟩ := q; exact ⟨q0, q1, qP, va_K.moved (u := U) (U := U.calling g mk a) (Vm.Alike.refl U.vm) qK, qD⟩, fun U hU hW => ⟨rfl, by rw [hU], by rw [hU]; exact hPc, va_K.moved hW.alike hK, hDc.weaken (fun _ _ _ _ => trivial)⟩⟩ rfl rfl hl.1 rfl (lv_room (Nat.le_of_ble_eq_true rfl)) dX12_span_80 ⟨Nat.le_of_ble_eq_true rfl, Nat.le_of_ble_eq_true rfl⟩) hS (fun q _ h => hFc q h) hFc (fun r_12 u t H1 locs ht hvm hw hB hz1 hk1 hSn => ?_)
                    subst hw
                    obtain ⟨hP1, hD1, hf12_0, hf12_1⟩ := hB
                    rw [ht] at hP1
                    obtain ⟨hPn, hDn⟩ := va_join (wr := [(oM, .inr (12, [.ref mT, .int zt, .ref mS, .ref mX, .int zp, .int zf, .ref mL, .ref mB, .ref mD, .ref m1, .ref m2, .int zh, .ref mR, .int zr, .ref x1, .ref x2, .ref x3, .int zc, .ref mH, .int zy, .int za, .int zb, .int zs, .int zq, .int (-1), .int 0, .ref mY, .int zn, .ref mE, .int zm, .int zl, .ref mW, .int zk, .ref mO, .int zd, .ref y1, .ref y2, .ref y3, .ref y4, .ref mZ])), (mL, .inl (cI, 512, .inl eL)), (mB, .inl (cS, 131072, .inl eB)), (mD, .inl (cI, 2, .inl eD))]) (w1 := []) hP hD [] [0, 1, 2, 3] rfl rfl (by decide +kernel) (by decide +kernel) hk1 hFc hP1 hD1
                    clear hP hD hS hPc hDc hFc hk1 hz1 hvm ht hP1 hD1
                    generalize H1 = H at hPn hSn ⊢
                    have hP : va_P (dC, dI) vwCl [(oM, .inr (12, [.ref mT, .int zt, .ref mS, .ref mX, .int zp, .int zf, .ref mL, .ref mB, .ref mD, .ref m1, .ref m2, .int zh, .ref mR, .int zr, .ref x1, .ref x2, .ref x3, .int zc, .ref mH, .int zy, .int za, .int zb, .int zs, .int zq, .int (-1), .int 0, .ref mY, .int zn, .ref mE, .int zm, .int zl, .ref mW, .int zk, .ref mO, .int zd, .ref y1, .ref y2, .ref y3, .ref y4, .ref mZ])), (mL, .inl (cI, 512, .inl eL)), (mB, .inl (cS, 131072, .inl eB)), (mD, .inl (cI, 2, .inl eD))] H := hPn
                    have hD : va_D A [(oM, .inr (12, [.ref mT, .int zt, .ref mS, .ref mX, .int zp, .int zf, .ref mL, .ref mB, .ref mD, .ref m1, .ref m2, .int zh, .ref mR, .int zr, .ref x1, .ref x2, .ref x3, .int zc, .ref mH, .int zy, .int za, .int zb, .int zs, .int zq, .int (-1), .int 0, .ref mY, .int zn, .ref mE, .int zm, .int zl, .ref mW, .int zk, .ref mO, .int zd, .ref y1, .ref y2, .ref y3, .ref y4, .ref mZ])), (mL, .inl (cI, 512, .inl eL)), (mB, .inl (cS, 131072, .inl eB)), (mD, .inl (cI, 2, .inl eD))] := hDn
                    have hS := hSn
                    clear hPn hDn hSn
                    refine lv_if_ne (tgt := 88) hx hb dX12_span_83 (by decide) (fun c_13 => ?_) (fun c_13 => ?_)
                    · have tc_13 : ¬ r_12.toInt = 0 := v_ne c_13
                      refine lv_iconst (v := 0) hx hb dX12_span_88 (by decide) ?_
                      refine lv_istore (lv' := [(7, .int 0), (6, .int x_11), (0, .ref oM), (1, .int cd), (2, .int fr), (3, .int n), (4, .int le), (5, .int sp)]) hx hb dX12_span_89 hl (by decide) rfl (fun ls hl => ?_)
                      have LOOP_91 : ∀ (k_91 : Nat) (k : Int32) (H : Heap) (locs : List Loc) (ls : Array Slot), MSd (256 - k.toInt : Int) k_91 → (0 ≤ k.toInt ∧ k.toInt ≤ 256) → (CTk k.toInt fr le sp (pL (cd.toInt - 4).toNat eL) (pB (cd.toInt - 4).toNat eB)) → va_P (dC, dI) vwCl [(oM, .inr (12, [.ref mT, .int zt, .ref mS, .ref mX, .int zp, .int zf, .ref mL, .ref mB, .ref mD, .ref m1, .ref m2, .int zh, .ref mR, .int zr, .ref x1, .ref x2, .ref x3, .int zc, .ref mH, .int zy, .int za, .int zb, .int zs, .int zq, .int (-1), .int 0, .ref mY, .int zn, .ref mE, .int zm, .int zl, .ref mW, .int zk, .ref mO, .int zd, .ref y1, .ref y2, .ref y3, .ref y4, .ref mZ])), (mL, .inl (cI, 512, .inl eL)), (mB, .inl (cS, 131072, .inl eB)), (mD, .inl (cI, 2, .inl eD))] H → va_D A [(oM, .inr (12, [.ref mT, .int zt, .ref mS, .ref mX, .int zp, .int zf, .ref mL, .ref mB, .ref mD, .ref m1, .ref m2, .int zh, .ref mR, .int zr, .ref x1, .ref x2, .ref x3, .int zc, .ref mH, .int zy, .int za, .int zb, .int zs, .int zq, .int (-1), .int 0, .ref mY, .int zn, .ref mE, .int zm, .int zl, .ref mW, .int zk, .ref mO, .int zd, .ref y1, .ref y2, .ref y3, .ref y4, .ref mZ])), (mL, .inl (cI, 512, .inl eL)), (mB, .inl (cS, 131072, .inl eB)), (mD, .inl (cI, 2, .inl eD))] → va_S A s.heap H locs → lv_has ls 9 [(7, .int k), (6, .int x_11), (0, .ref oM), (1, .int cd), (2, .int fr), (3, .int n), (4, .int le), (5, .int sp)] → W p l e (headSpec wsX12_span ({ frames := 1, cells := 0, slots := 0, locals := 20 } : Room)).room s m ([.ref oM, .int cd, .int fr, .int n, .int le, .int sp] : List Value).toArray below meth c H locs 0 0 (MQ below QQ ([.ref oM, .int cd, .int fr, .int n, .int le, .int sp] : List Value).toArray s 0 0 A) (F0 m 91 ls []) := by
                        clear hP hD hS hl
                        intro k_91
                        induction k_91 with
                        | zero =>
                          intro k H locs ls hm_91 g_k hct hP hD hS hl
                          exact ms_0 hm_91
                        | succ k_91 ih_91 =>
                          intro k H locs ls hm_91 g_k hct hP hD hS hl
                          refine lv_iload hx hb dX12_span_91 (lv_at hl 0 rfl) ?_
                          refine lv_iload_n hx hb dX12_span_93 rfl (lv_at hl 5 rfl) ?_
                          refine lv_icmp_ge (tgt := 160) hx hb dX12_span_94 (by decide) (fun c_14 => ?_) (fun c_14 => ?_)
                          · have tc_14 : n.toInt ≤ k.toInt := v_le c_14
                            have hCT : CT fr n le sp (pL (cd.toInt - 4).toNat eL) (pB (cd.toInt - 4).toNat eB) := ⟨by unfold isLz; omega, CTk_le hct (by omega)⟩
                            have hokn : ∀ q : Int32, 0 ≤ q.toInt → q.toInt < n.toInt → 0 ≤ (le + q * sp).toInt ∧ (le + q * sp).toInt ≤ 65535 := fun q h1 h2 => ⟨(hCT.2 q h1 h2).1.1, (hCT.2 q h1 h2).1.2.1⟩
                            refine lv_iconst (v := 0) hx hb dX12_span_160 (by decide) ?_
                            refine lv_istore (lv' := [(7, .int 0), (6, .int x_11), (0, .ref oM), (1, .int cd), (2, .int fr), (3, .int n), (4, .int le), (5, .int sp)]) hx hb dX12_span_161 hl (by decide) rfl (fun ls hl => ?_)
                            have LOOP_163 : ∀ (k_163 : Nat) (k2 : Int32) (eLa : Nat → Int32) (eBa : Nat → Int32) (H : Heap) (locs : List Loc) (ls : Array Slot), MSd (256 - k2.toInt : Int) k_163 → (0 ≤ k2.toInt ∧ k2.toInt ≤ 256) → (rg (-1) 65535 eLa) → (rg (-1) 255 eBa) → (k2.toInt ≤ n.toInt) → (SPR (cd.toInt - 4).toNat k2 fr le sp eL eB eLa eBa) → va_P (dC, dI) vwCl [(oM, .inr (12, [.ref mT, .int zt, .ref mS, .ref mX, .int zp, .int zf, .ref mL, .ref mB, .ref mD, .ref m1, .ref m2, .int zh, .ref mR, .int zr, .ref x1, .ref x2, .ref x3, .int zc, .ref mH, .int zy, .int za, .int zb, .int zs, .int zq, .int (-1), .int 0, .ref mY, .int zn, .ref mE, .int zm, .int zl, .ref mW, .int zk, .ref mO, .int zd, .ref y1, .ref y2, .ref y3, .ref y4, .ref mZ])), (mL, .inl (cI, 512, .inl eLa)), (mB, .inl (cS, 131072, .inl eBa)), (mD, .inl (cI, 2, .inl eD))] H → va_D A [(oM, .inr (12, [.ref mT, .int zt, .ref mS, .ref mX, .int zp, .int zf, .ref mL, .ref mB, .ref mD, .ref m1, .ref m2, .int zh, .ref mR, .int zr, .ref x1, .ref x2, .ref x3, .int zc, .ref mH, .int zy, .int za, .int zb, .int zs, .int zq, .int (-1), .int 0, .ref mY, .int zn, .ref mE, .int zm, .int zl, .ref mW, .int zk, .ref mO, .int zd, .ref y1, .ref y2, .ref y3, .ref y4, .ref mZ])), (mL, .inl (cI, 512, .inl eLa)), (mB, .inl (cS, 131072, .inl eBa)), (mD, .inl (cI, 2, .inl eD))] → va_S A s.heap H locs → lv_has ls 9 [(7, .int k2), (6, .int x_11), (0, .ref oM), (1, .int cd), (2, .int fr), (3, .int n), (4, .int le), (5, .int sp)] → W p l e (headSpec wsX12_span ({ frames := 1, cells := 0, slots := 0, locals := 20 } : Room)).room s m ([.ref oM, .int cd, .int fr, .int n, .int le, .int sp] : List Value).toArray below meth c H locs 0 0 (MQ below QQ ([.ref oM, .int cd, .int fr, .int n, .int le, .int sp] : List Value).toArray s 0 0 A) (F0 m 163 ls []) := by
                              clear hP hD hS hl
                              intro k_163
                              induction k_163 with
                              | zero =>
                                intro k2 eLa eBa H locs ls hm_163 g_k2 g_eLa g_eBa hkn hspr hP hD hS hl
                                exact ms_0 hm_163
                              | succ k_163 ih_163 =>
                                intro k2 eLa eBa H locs ls hm_163 g_k2 g_eLa g_eBa hkn hspr hP hD hS hl
                                refine lv_iload hx hb dX12_span_163 (lv_at hl 0 rfl) ?_
                                refine lv_iload_n hx hb dX12_span_165 rfl (lv_at hl 5 rfl) ?_
                                refine lv_icmp_ge (tgt := 223) hx hb dX12_span_166 (by decide) (fun c_15 => ?_) (fun c_15 => ?_)
                                · have tc_15 : n.toInt ≤ k2.toInt := v_le c_15
                                  refine lv_aload_n hx hb dX12_span_223 rfl (lv_at hl 2 rfl) ?_
                                  refine va_get (D := (dC, dI)) (ci := 12) (v := .ref mD) (C := RX12) (T := TX12) (N := 40) hx hb hts in_X12 hown hK hP 0 rfl rfl 8 (by decide) (hts (.fieldLink RX12 27 "TextMenderModel" "told" "[I") (List.mem_of_getElem? (i := 6) rfl)) (fun _ h9 => h9) rfl dX12_span_224 ?_
                                  refine lv_iload hx hb dX12_span_227 (lv_at hl 1 rfl) ?_
                                  refine lv_dup2_11 hx hb dX12_span_229 rfl rfl ?_
                                  refine va_iald hx hb hK hP 3 0 rfl rfl (v_in (by omega)) dX12_span_230 ?_
                                  refine lv_topi (fun x_16 ex_16 => ?_)
                                  refine lv_iload_n hx hb dX12_span_231 rfl (lv_at hl 5 rfl) ?_
                                  refine lv_iadd hx hb dX12_span_232 ?_
                                  refine lv_topi (fun x_17 ex_17 => ?_)
                                  have rv17_0 := v_rng x_16
                                  refine va_iast hx hb hK hP hD hS 3 0 rfl rfl (v_in (by omega)) dX12_span_233 (fun H locs hPn hDn hSn => ?_)
                                  clear hP hD hS
                                  have hP : va_P (dC, dI) vwCl [(oM, .inr (12, [.ref mT, .int zt, .ref mS, .ref mX, .int zp, .int zf, .ref mL, .ref mB, .ref mD, .ref m1, .ref m2, .int zh, .ref mR, .int zr, .ref x1, .ref x2, .ref x3, .int zc, .ref mH, .int zy, .int za, .int zb, .int zs, .int zq, .int (-1), .int 0, .ref mY, .int zn, .ref mE, .int zm, .int zl, .ref mW, .int zk, .ref mO, .int zd, .ref y1, .ref y2, .ref y3, .ref y4, .ref mZ])), (mL, .inl (cI, 512, .inl eLa)), (mB, .inl (cS, 131072, .inl eBa)), (mD, .inl (cI, 2, .inl (upd eD (x_11 : Int32).toNatClampNeg x_17)))] H := hPn
                                  have hD : va_D A [(oM, .inr (12, [.ref mT, .int zt, .ref mS, .ref mX, .int zp, .int zf, .ref mL, .ref mB, .ref mD, .ref m1, .ref m2, .int zh, .ref mR, .int zr, .ref x1, .ref x2, .ref x3, .int zc, .ref mH, .int zy, .int za, .int zb, .int zs, .int zq, .int (-1), .int 0, .ref mY, .int zn, .ref mE, .int zm, .int zl, .ref mW, .int zk, .ref mO, .int zd, .ref y1, .ref y2, .ref y3, .ref y4, .ref mZ])), (mL, .inl (cI, 512, .inl eLa)), (mB, .inl (cS, 131072, .inl eBa)), (mD, .inl (cI, 2, .inl (upd eD (x_11 : Int32).toNatClampNeg x_17)))] := hDn
                                  have hS := hSn
                                  clear hPn hDn hSn
                                  obtain ⟨f_18, ef_18⟩ : ∃ g : Nat → Int32, g = upd eD (x_11 : Int32).toNatClampNeg x_17 := ⟨_, rfl⟩
                                  rw [← ef_18] at hP hD
                                  refine lv_aload_n hx hb dX12_span_234 rfl (lv_at hl 2 rfl) ?_
                                  refine lv_dup hx hb dX12_span_235 rfl ?_
                                  refine va_get (D := (dC, dI)) (ci := 12) (v := .int zs) (C := RX12) (T := TX12) (N := 40) hx hb hts in_X12 hown hK hP 0 rfl rfl 22 (by decide) (hts (.fieldLink RX12 148 "TextMenderModel" "state" "I") (List.mem_of_getElem? (i := 7) rfl)) (fun _ h9 => h9) rfl dX12_span_236 ?_
                                  refine lv_iconst (v := 1) hx hb dX12_span_239 (by decide) ?_
                                  refine lv_iadd hx hb dX12_span_240 ?_
                                  refine lv_topi (fun x_19 ex_19 => ?_)
                                  have tx_19 : x_19.toInt = zs.toInt + 1 := v_add ex_19 (by show -2147483648 ≤ zs.toInt + 1; omega) (by show zs.toInt + 1 < 2147483648; omega)
                                  refine va_put (D := (dC, dI)) (ci := 12) (v := .int x_19) (ty := .int) (C := RX12) (T := TX12) (N := 40) hx hb hts in_X12 tyX12 tyX12_ok nmX12 hown hK hP hD hS 0 rfl rfl 22 (by decide) (hts (.fieldLink RX12 148 "TextMenderModel" "state" "I") (List.mem_of_getElem? (i := 7) rfl)) (fun _ h9 => h9) rfl (by decide +kernel) rfl rfl (Nat.le_of_ble_eq_true rfl) dX12_span_241 (fun H locs hPn hDn hSn => ?_)
                                  clear hP hD hS
                                  have hP : va_P (dC, dI) vwCl [(oM, .inr (12, [.ref mT, .int zt, .ref mS, .ref mX, .int zp, .int zf, .ref mL, .ref mB, .ref mD, .ref m1, .ref m2, .int zh, .ref mR, .int zr, .ref x1, .ref x2, .ref x3, .int zc, .ref mH, .int zy, .int za, .int zb, .int x_19, .int zq, .int (-1), .int 0, .ref mY, .int zn, .ref mE, .int zm, .int zl, .ref mW, .int zk, .ref mO, .int zd, .ref y1, .ref y2, .ref y3, .ref y4, .ref mZ])), (mL, .inl (cI, 512, .inl eLa)), (mB, .inl (cS, 131072, .inl eBa)), (mD, .inl (cI, 2, .inl f_18))] H := hPn
                                  have hD : va_D A [(oM, .inr (12, [.ref mT, .int zt, .ref mS, .ref mX, .int zp, .int zf, .ref mL, .ref mB, .ref mD, .ref m1, .ref m2, .int zh, .ref mR, .int zr, .ref x1, .ref x2, .ref x3, .int zc, .ref mH, .int zy, .int za, .int zb, .int x_19, .int zq, .int (-1), .int 0, .ref mY, .int zn, .ref mE, .int zm, .int zl, .ref mW, .int zk, .ref mO, .int zd, .ref y1, .ref y2, .ref y3, .ref y4, .ref mZ])), (mL, .inl (cI, 512, .inl eLa)), (mB, .inl (cS, 131072, .inl eBa)), (mD, .inl (cI, 2, .inl f_18))] := hDn
                                  have hS := hSn
                                  clear hPn hDn hSn
                                  refine lv_aload_n hx hb dX12_span_244 rfl (lv_at hl 2 rfl) ?_
                                  refine va_get (D := (dC, dI)) (ci := 12) (v := .ref mD) (C := RX12) (T := TX12) (N := 40) hx hb hts in_X12 hown hK hP 0 rfl rfl 8 (by decide) (hts (.fieldLink RX12 27 "TextMenderModel" "told" "[I") (List.mem_of_getElem? (i := 6) rfl)) (fun _ h9 => h9) rfl dX12_span_245 ?_
                                  refine lv_iload hx hb dX12_span_248 (lv_at hl 1 rfl) ?_
                                  refine va_iald hx hb hK hP 3 0 rfl rfl (v_in (by omega)) dX12_span_250 ?_
                                  refine lv_topi (fun x_20 ex_20 => ?_)
                                  have hP9 := hP.sub (ws' := [(oM, .inr (12, [.ref mT, .int zt, .ref mS, .ref mX, .int zp, .int zf, .ref mL, .ref mB, .ref mD, .ref m1, .ref m2, .int zh, .ref mR, .int zr, .ref x1, .ref x2, .ref x3, .int zc, .ref mH, .int zy, .int za, .int zb, .int x_19, .int zq, .int (-1), .int 0, .ref mY, .int zn, .ref mE, .int zm, .int zl, .ref mW, .int zk, .ref mO, .int zd, .ref y1, .ref y2, .ref y3, .ref y4, .ref mZ])), (mL, .inl (cI, 512, .inl eLa)), (mB, .inl (cS, 131072, .inl eBa)), (mD, .inl (cI, 2, .inl f_18))]) [0, 1, 2, 3] rfl
                                  have hD9 := hD.sub (ws' := [(oM, .inr (12, [.ref mT, .int zt, .ref mS, .ref mX, .int zp, .int zf, .ref mL, .ref mB, .ref mD, .ref m1, .ref m2, .int zh, .ref mR, .int zr, .ref x1, .ref x2, .ref x3, .int zc, .ref mH, .int zy, .int za, .int zb, .int x_19, .int zq, .int (-1), .int 0, .ref mY, .int zn, .ref mE, .int zm, .int zl, .ref mW, .int zk, .ref mO, .int zd, .ref y1, .ref y2, .ref y3, .ref y4, .ref mZ])), (mL, .inl (cI, 512, .inl eLa)), (mB, .inl (cS, 131072, .inl eBa)), (mD, .inl (cI, 2, .inl f_18))]) [0, 1, 2, 3] (by decide +kernel) rfl
                                  rw [hQQ]
                                  exact W.iret (v := x_20) hx hb hr (fun t ht hW => ⟨⟨x_20, x_20, rfl, rfl, ⟨0, (-1), eLa, eBa, f_18, x_19, by rw [ht]; exact hP9, hD9, g_eLa, g_eBa, by omega, by show x_19.toInt ≤ zs.toInt + 1 ∧ zs.toInt ≤ x_19.toInt; omega, Or.inl ⟨(cd.toInt - 4).toNat, by omega, by omega, hCT, SPR_n hspr (by omega), (spanR_d (cd := cd) (by omega) (by omega) ex_16 ex_17 ef_18 ex_20).1, (spanR_d (cd := cd) (by omega) (by omega) ex_16 ex_17 ef_18 ex_20).2⟩, Or.inl ⟨⟨(cd.toInt - 4).toNat, by omega, by omega, hCT⟩, by omega⟩⟩⟩, hS.F ht⟩) hS.2.2 dX12_span_251
                                · have tc_15 : k2.toInt < n.toInt := v_nle c_15
                                  refine lv_aload_n hx hb dX12_span_169 rfl (lv_at hl 2 rfl) ?_
                                  refine va_get (D := (dC, dI)) (ci := 12) (v := .ref mL) (C := RX12) (T := TX12) (N := 40) hx hb hts in_X12 hown hK hP 0 rfl rfl 6 (by decide) (hts (.fieldLink RX12 19 "TextMenderModel" "letterOf" "[I") (List.mem_of_getElem? (i := 3) rfl)) (fun _ h9 => h9) rfl dX12_span_170 ?_
                                  refine lv_sipush (v := 256) hx hb dX12_span_173 (by decide) ?_
                                  refine lv_iload hx hb dX12_span_176 (lv_at hl 1 rfl) ?_
                                  refine lv_imul hx hb dX12_span_178 ?_
                                  refine lv_topi (fun x_21 ex_21 => ?_)
                                  have tx_21 : x_21.toInt = 256 * x_11.toInt := v_mul ex_21 (by show -2147483648 ≤ 256 * x_11.toInt; omega) (by show 256 * x_11.toInt < 2147483648; omega)
                                  refine lv_iload_n hx hb dX12_span_179 rfl (lv_at hl 4 rfl) ?_
                                  refine lv_iadd hx hb dX12_span_180 ?_
                                  refine lv_topi (fun x_22 ex_22 => ?_)
                                  have tx_22 : x_22.toInt = x_21.toInt + fr.toInt := v_add ex_22 (by show -2147483648 ≤ x_21.toInt + fr.toInt; omega) (by show x_21.toInt + fr.toInt < 2147483648; omega)
                                  refine lv_iload hx hb dX12_span_181 (lv_at hl 0 rfl) ?_
                                  refine lv_iadd hx hb dX12_span_183 ?_
                                  refine lv_topi (fun x_23 ex_23 => ?_)
                                  have tx_23 : x_23.toInt = x_22.toInt + k2.toInt := v_add ex_23 (by show -2147483648 ≤ x_22.toInt + k2.toInt; omega) (by show x_22.toInt + k2.toInt < 2147483648; omega)
                                  refine lv_iload hx hb dX12_span_184 (lv_at hl 6 rfl) ?_
                                  refine lv_iload hx hb dX12_span_186 (lv_at hl 0 rfl) ?_
                                  refine lv_iload hx hb dX12_span_188 (lv_at hl 7 rfl) ?_
                                  refine lv_imul hx hb dX12_span_190 ?_
                                  refine lv_topi (fun x_24 ex_24 => ?_)
                                  refine lv_iadd hx hb dX12_span_191 ?_
                                  refine lv_topi (fun x_25 ex_25 => ?_)
                                  have rv25_1 := v_rng x_24
                                  have ts_x_25 := sp_at (n := n.toInt) hokn ex_24 ex_25 (by omega) (by omega)
                                  refine va_iast hx hb hK hP hD hS 1 0 rfl rfl (v_in (by omega)) dX12_span_192 (fun H locs hPn hDn hSn => ?_)
                                  clear hP hD hS
                                  have hP : va_P (dC, dI) vwCl [(oM, .inr (12, [.ref mT, .int zt, .ref mS, .ref mX, .int zp, .int zf, .ref mL, .ref mB, .ref mD, .ref m1, .ref m2, .int zh, .ref mR, .int zr, .ref x1, .ref x2, .ref x3, .int zc, .ref mH, .int zy, .int za, .int zb, .int zs, .int zq, .int (-1), .int 0, .ref mY, .int zn, .ref mE, .int zm, .int zl, .ref mW, .int zk, .ref mO, .int zd, .ref y1, .ref y2, .ref y3, .ref y4, .ref mZ])), (mL, .inl (cI, 512, .inl (upd eLa (x_23 : Int32).toNatClampNeg x_25))), (mB, .inl (cS, 131072, .inl eBa)), (mD, .inl (cI, 2, .inl eD))] H := hPn
                                  have hD : va_D A [(oM, .inr (12, [.ref mT, .int zt, .ref mS, .ref mX, .int zp, .int zf, .ref mL, .ref mB, .ref mD, .ref m1, .ref m2, .int zh, .ref mR, .int zr, .ref x1, .ref x2, .ref x3, .int zc, .ref mH, .int zy, .int za, .int zb, .int zs, .int zq, .int (-1), .int 0, .ref mY, .int zn, .ref mE, .int zm, .int zl, .ref mW, .int zk, .ref mO, .int zd, .ref y1, .ref y2, .ref y3, .ref y4, .ref mZ])), (mL, .inl (cI, 512, .inl (upd eLa (x_23 : Int32).toNatClampNeg x_25))), (mB, .inl (cS, 131072, .inl eBa)), (mD, .inl (cI, 2, .inl eD))] := hDn
                                  have hS := hSn
                                  clear hPn hDn hSn
                                  obtain ⟨f_26, ef_26⟩ : ∃ g : Nat → Int32, g = upd eLa (x_23 : Int32).toNatClampNeg x_25 := ⟨_, rfl⟩
                                  rw [← ef_26] at hP hD
                                  have g_f26 : rg (-1) 65535 f_26 := rg_upd ef_26 g_eLa (by omega)
                                  refine lv_aload_n hx hb dX12_span_193 rfl (lv_at hl 2 rfl) ?_
                                  refine va_get (D := (dC, dI)) (ci := 12) (v := .ref mB) (C := RX12) (T := TX12) (N := 40) hx hb hts in_X12 hown hK hP 0 rfl rfl 7 (by decide) (hts (.fieldLink RX12 23 "TextMenderModel" "byteOfLetter" "[S") (List.mem_of_getElem? (i := 4) rfl)) (fun _ h9 => h9) rfl dX12_span_194 ?_
                                  refine lv_ldc hx hb hown (hts (.constant RX12 88 (65536)) (List.mem_of_getElem? (i := 5) rfl)) dX12_span_197 ?_
                                  refine lv_iload hx hb dX12_span_199 (lv_at hl 1 rfl) ?_
                                  refine lv_imul hx hb dX12_span_201 ?_
                                  refine lv_topi (fun x_27 ex_27 => ?_)
                                  have tx_27 : x_27.toInt = 65536 * x_11.toInt := v_mul ex_27 (by show -2147483648 ≤ 65536 * x_11.toInt; omega) (by show 65536 * x_11.toInt < 2147483648; omega)
                                  refine lv_iload hx hb dX12_span_202 (lv_at hl 6 rfl) ?_
                                  refine lv_iadd hx hb dX12_span_204 ?_
                                  refine lv_topi (fun x_28 ex_28 => ?_)
                                  have tx_28 : x_28.toInt = x_27.toInt + le.toInt := v_add ex_28 (by show -2147483648 ≤ x_27.toInt + le.toInt; omega) (by show x_27.toInt + le.toInt < 2147483648; omega)
                                  refine lv_iload hx hb dX12_span_205 (lv_at hl 0 rfl) ?_
                                  refine lv_iload hx hb dX12_span_207 (lv_at hl 7 rfl) ?_
                                  refine lv_imul hx hb dX12_span_209 ?_
                                  refine lv_topi (fun x_29 ex_29 => ?_)
                                  refine lv_iadd hx hb dX12_span_210 ?_
                                  refine lv_topi (fun x_30 ex_30 => ?_)
                                  have rv30_1 := v_rng x_29
                                  have ts_x_30 := sp_ix (n := n.toInt) hokn ex_29 ex_28 ex_30 (by omega) (by omega) (by omega)
                                  refine lv_iload_n hx hb dX12_span_211 rfl (lv_at hl 4 rfl) ?_
                                  refine lv_iload hx hb dX12_span_212 (lv_at hl 0 rfl) ?_
                                  refine lv_iadd hx hb dX12_span_214 ?_
                                  refine lv_topi (fun x_31 ex_31 => ?_)
                                  have tx_31 : x_31.toInt = fr.toInt + k2.toInt := v_add ex_31 (by show -2147483648 ≤ fr.toInt + k2.toInt; omega) (by show fr.toInt + k2.toInt < 2147483648; omega)
                                  obtain ⟨x_32, ex_32⟩ : ∃ v : Int32, v = (x_31 : Int32).toInt16.toInt32 := ⟨_, rfl⟩
                                  refine lv_i2s (v := x_32) hx hb dX12_span_215 ex_32.symm ?_
                                  have tx_32 : x_32.toInt = x_31.toInt := v_i2s ex_32 (by omega)
                                  refine va_sast hx hb hK hP hD hS 2 1 rfl rfl (v_in (by omega)) dX12_span_216 (fun H locs hPn hDn hSn => ?_)
                                  clear hP hD hS
                                  have hP : va_P (dC, dI) vwCl [(oM, .inr (12, [.ref mT, .int zt, .ref mS, .ref mX, .int zp, .int zf, .ref mL, .ref mB, .ref mD, .ref m1, .ref m2, .int zh, .ref mR, .int zr, .ref x1, .ref x2, .ref x3, .int zc, .ref mH, .int zy, .int za, .int zb, .int zs, .int zq, .int (-1), .int 0, .ref mY, .int zn, .ref mE, .int zm, .int zl, .ref mW, .int zk, .ref mO, .int zd, .ref y1, .ref y2, .ref y3, .ref y4, .ref mZ])), (mL, .inl (cI, 512, .inl f_26)), (mB, .inl (cS, 131072, .inl (upd eBa (x_30 : Int32).toNatClampNeg (vp_nar .short x_32)))), (mD, .inl (cI, 2, .inl eD))] H := hPn
                                  have hD : va_D A [(oM, .inr (12, [.ref mT, .int zt, .ref mS, .ref mX, .int zp, .int zf, .ref mL, .ref mB, .ref mD, .ref m1, .ref m2, .int zh, .ref mR, .int zr, .ref x1, .ref x2, .ref x3, .int zc, .ref mH, .int zy, .int za, .int zb, .int zs, .int zq, .int (-1), .int 0, .ref mY, .int zn, .ref mE, .int zm, .int zl, .ref mW, .int zk, .ref mO, .int zd, .ref y1, .ref y2, .ref y3, .ref y4, .ref mZ])), (mL, .inl (cI, 512, .inl f_26)), (mB, .inl (cS, 131072, .inl (upd eBa (x_30 : Int32).toNatClampNeg (vp_nar .short x_32)))), (mD, .inl (cI, 2, .inl eD))] := hDn
                                  have hS := hSn
                                  clear hPn hDn hSn
                                  obtain ⟨f_33, ef_33⟩ : ∃ g : Nat → Int32, g = upd eBa (x_30 : Int32).toNatClampNeg (vp_nar .short x_32) := ⟨_, rfl⟩
                                  rw [← ef_33] at hP hD
                                  have g_f33 : rg (-1) 255 f_33 := rg_upd ef_33 g_eBa (v_nars (by omega) (by omega))
                                  obtain ⟨x_34, ex_34⟩ : ∃ y : Int32, y = k2 + 1 := ⟨_, rfl⟩
                                  have tx_34 : x_34.toInt = k2.toInt + 1 := v_add ex_34 (by show -2147483648 ≤ k2.toInt + 1; omega) (by show k2.toInt + 1 < 2147483648; omega)
                                  refine lv_iinc (v := x_34) (lv' := [(7, .int x_34), (6, .int x_11), (0, .ref oM), (1, .int cd), (2, .int fr), (3, .int n), (4, .int le), (5, .int sp)]) hx hb dX12_span_217 hl (k := 0) rfl (by rw [ex_34]; rfl) (by decide) rfl (fun ls hl => ?_)
                                  refine lv_goto (tgt := 163) hx hb dX12_span_220 (by decide) ?_
                                  exact ih_163 x_34 f_26 f_33 _ _ _ (ms_lt hm_163 (by show ((256 - x_34.toInt : Int)) < 256 - k2.toInt; omega) (by show (0 : Int) < 256 - k2.toInt; omega)) (by show 0 ≤ x_34.toInt ∧ x_34.toInt ≤ 256; omega) (g_f26) (g_f33) (by show x_34.toInt ≤ n.toInt; omega) (SPR_s hCT hspr (by omega) (by omega) (by omega) ex_24 ex_25 ex_29 ex_28 ex_30 (z := x_27) (by omega) (a := x_23) (by omega) (w := vp_nar .short x_32) (by rw [v_nar_s (by omega)]; omega) ef_26 ef_33 (by omega)) hP hD hS (lv_sub hl [0, 1, 2, 3, 4, 5, 6, 7] rfl)
                            exact LOOP_163 _ 0 eL eB _ _ _ (ms_s _) (by decide) (g_eL) (g_eB) (by show 0 ≤ n.toInt; omega) (SPR_0) hP hD hS (lv_sub hl [0, 1, 2, 3, 4, 5, 6, 7] rfl)
                          · have tc_14 : k.toInt < n.toInt := v_nle c_14
                            refine lv_iload hx hb dX12_span_97 (lv_at hl 6 rfl) ?_
                            refine lv_iload hx hb dX12_span_99 (lv_at hl 0 rfl) ?_
                            refine lv_iload hx hb dX12_span_101 (lv_at hl 7 rfl) ?_
                            refine lv_imul hx hb dX12_span_103 ?_
                            refine lv_topi (fun x_35 ex_35 => ?_)
                            refine lv_iadd hx hb dX12_span_104 ?_
                            refine lv_topi (fun x_36 ex_36 => ?_)
                            have rv36_1 := v_rng x_35
                            refine lv_istore (lv' := [(8, .int x_36), (7, .int k), (6, .int x_11), (0, .ref oM), (1, .int cd), (2, .int fr), (3, .int n), (4, .int le), (5, .int sp)]) hx hb dX12_span_105 hl (by decide) rfl (fun ls hl => ?_)
                            refine lv_iload hx hb dX12_span_107 (lv_at hl 0 rfl) ?_
                            have hPc := hP.sub (ws' := []) [] rfl
                            have hDc := hD.sub (ws' := []) [] (by decide +kernel) rfl
                            have hFc := va_free (wc := []) hD hS hA [] rfl
                            refine va_calli (va_runS (As := [.int x_36]) (rest := []) ⟨hx, hb, hml, hown, hts⟩ (m_X12_isLetter l dC dI cI cS H.size x_36 ) (va_cwS 1 hts gX12_span_X12_isLetter rfl rfl rfl (by decide +kernel) ⟨Nat.le_of_ble_eq_true rfl, Nat.le_of_ble_eq_true rfl⟩) ⟨fun a U g mk q => by obtain ⟨q0, q1, qP, qK, qD⟩ := q; exact ⟨q0, q1, qP, va_K.moved (u := U) (U := U.calling g mk a) (Vm.Alike.refl U.vm) qK, qD⟩, fun U hU hW => ⟨rfl, by rw [hU], by rw [hU]; exact hPc, va_K.moved hW.alike hK, hDc.weaken (fun _ _ _ _ => trivial)⟩⟩ rfl rfl hl.1 rfl (lv_room (Nat.le_of_ble_eq_true rfl)) dX12_span_109 ⟨Nat.le_of_ble_eq_true rfl, Nat.le_of_ble_eq_true rfl⟩) hS (fun q _ h => hFc q h) hFc (fun r_37 u t H1 locs ht hvm hw hB hz1 hk1 hSn => ?_)
                            subst hw
                            obtain ⟨hP1, hD1, hf37_0, hf37_1⟩ := hB
                            rw [ht] at hP1
                            obtain ⟨hPn, hDn⟩ := va_join (wr := [(oM, .inr (12, [.ref mT, .int zt, .ref mS, .ref mX, .int zp, .int zf, .ref mL, .ref mB, .ref mD, .ref m1, .ref m2, .int zh, .ref mR, .int zr, .ref x1, .ref x2, .ref x3, .int zc, .ref mH, .int zy, .int za, .int zb, .int zs, .int zq, .int (-1), .int 0, .ref mY, .int zn, .ref mE, .int zm, .int zl, .ref mW, .int zk, .ref mO, .int zd, .ref y1, .ref y2, .ref y3, .ref y4, .ref mZ])), (mL, .inl (cI, 512, .inl eL)), (mB, .inl (cS, 131072, .inl eB)), (mD, .inl (cI, 2, .inl eD))]) (w1 := []) hP hD [] [0, 1, 2, 3] rfl rfl (by decide +kernel) (by decide +kernel) hk1 hFc hP1 hD1
                            clear hP hD hS hPc hDc hFc hk1 hz1 hvm ht hP1 hD1
                            generalize H1 = H at hPn hSn ⊢
                            have hP : va_P (dC, dI) vwCl [(oM, .inr (12, [.ref mT, .int zt, .ref mS, .ref mX, .int zp, .int zf, .ref mL, .ref mB, .ref mD, .ref m1, .ref m2, .int zh, .ref mR, .int zr, .ref x1, .ref x2, .ref x3, .int zc, .ref mH, .int zy, .int za, .int zb, .int zs, .int zq, .int (-1), .int 0, .ref mY, .int zn, .ref mE, .int zm, .int zl, .ref mW, .int zk, .ref mO, .int zd, .ref y1, .ref y2, .ref y3, .ref y4, .ref mZ])), (mL, .inl (cI, 512, .inl eL)), (mB, .inl (cS, 131072, .inl eB)), (mD, .inl (cI, 2, .inl eD))] H := hPn
                            have hD : va_D A [(oM, .inr (12, [.ref mT, .int zt, .ref mS, .ref mX, .int zp, .int zf, .ref mL, .ref mB, .ref mD, .ref m1, .ref m2, .int zh, .ref mR, .int zr, .ref x1, .ref x2, .ref x3, .int zc, .ref mH, .int zy, .int za, .int zb, .int zs, .int zq, .int (-1), .int 0, .ref mY, .int zn, .ref mE, .int zm, .int zl, .ref mW, .int zk, .ref mO, .int zd, .ref y1, .ref y2, .ref y3, .ref y4, .ref mZ])), (mL, .inl (cI, 512, .inl eL)), (mB, .inl (cS, 131072, .inl eB)), (mD, .inl (cI, 2, .inl eD))] := hDn
                            have hS := hSn
                            clear hPn hDn hSn
                            refine lv_if_eq (tgt := 152) hx hb dX12_span_112 (by decide) (fun c_38 => ?_) (fun c_38 => ?_)
                            · have tc_38 : r_37.toInt = 0 := v_eq c_38
                              refine lv_iconst (v := (-1)) hx hb dX12_span_152 (by decide) ?_
                              have hP9 := hP.sub (ws' := [(oM, .inr (12, [.ref mT, .int zt, .ref mS, .ref mX, .int zp, .int zf, .ref mL, .ref mB, .ref mD, .ref m1, .ref m2, .int zh, .ref mR, .int zr, .ref x1, .ref x2, .ref x3, .int zc, .ref mH, .int zy, .int za, .int zb, .int zs, .int zq, .int (-1), .int 0, .ref mY, .int zn, .ref mE, .int zm, .int zl, .ref mW, .int zk, .ref mO, .int zd, .ref y1, .ref y2, .ref y3, .ref y4, .ref mZ])), (mL, .inl (cI, 512, .inl eL)), (mB, .inl (cS, 131072, .inl eB)), (mD, .inl (cI, 2, .inl eD))]) [0, 1, 2, 3] rfl
                              have hD9 := hD.sub (ws' := [(oM, .inr (12, [.ref mT, .int zt, .ref mS, .ref mX, .int zp, .int zf, .ref mL, .ref mB, .ref mD, .ref m1, .ref m2, .int zh, .ref mR, .int zr, .ref x1, .ref x2, .ref x3, .int zc, .ref mH, .int zy, .int za, .int zb, .int zs, .int zq, .int (-1), .int 0, .ref mY, .int zn, .ref mE, .int zm, .int zl, .ref mW, .int zk, .ref mO, .int zd, .ref y1, .ref y2, .ref y3, .ref y4, .ref mZ])), (mL, .inl (cI, 512, .inl eL)), (mB, .inl (cS, 131072, .inl eB)), (mD, .inl (cI, 2, .inl eD))]) [0, 1, 2, 3] (by decide +kernel) rfl
                              rw [hQQ]
                              exact W.iret (v := (-1)) hx hb hr (fun t ht hW => ⟨⟨(-1), (-1), rfl, rfl, ⟨0, (-1), eL, eB, eD, zs, by rw [ht]; exact hP9, hD9, g_eL, g_eB, g_zs, by show zs.toInt ≤ zs.toInt + 1 ∧ zs.toInt ≤ zs.toInt; omega, Or.inr ⟨rfl, rfl, rfl, rfl, spanR_no (by omega) ex_35 ex_36 (by omega) (by omega) (fun z => by have z1 := z.1; unfold isLz at z1; omega)⟩, Or.inr ⟨fun ⟨t9, z1, z2, z3⟩ => (spanR_no (by omega) ex_35 ex_36 (by omega) (by omega) (fun z => by have z1 := z.1; unfold isLz at z1; omega)) t9 z1 z2 z3, rfl⟩⟩⟩, hS.F ht⟩) hS.2.2 dX12_span_153
                            · have tc_38 : ¬ r_37.toInt = 0 := v_ne c_38
                              have tl_x_36 : 0 ≤ x_36.toInt ∧ x_36.toInt ≤ 65535 := by omega
                              refine lv_aload_n hx hb dX12_span_115 rfl (lv_at hl 3 rfl) ?_
                              refine va_get (D := (dC, dI)) (ci := 12) (v := .ref mL) (C := RX12) (T := TX12) (N := 40) hx hb hts in_X12 hown hK hP 0 rfl rfl 6 (by decide) (hts (.fieldLink RX12 19 "TextMenderModel" "letterOf" "[I") (List.mem_of_getElem? (i := 3) rfl)) (fun _ h9 => h9) rfl dX12_span_116 ?_
                              refine lv_sipush (v := 256) hx hb dX12_span_119 (by decide) ?_
                              refine lv_iload hx hb dX12_span_122 (lv_at hl 2 rfl) ?_
                              refine lv_imul hx hb dX12_span_124 ?_
                              refine lv_topi (fun x_39 ex_39 => ?_)
                              have tx_39 : x_39.toInt = 256 * x_11.toInt := v_mul ex_39 (by show -2147483648 ≤ 256 * x_11.toInt; omega) (by show 256 * x_11.toInt < 2147483648; omega)
                              refine lv_iload_n hx hb dX12_span_125 rfl (lv_at hl 5 rfl) ?_
                              refine lv_iadd hx hb dX12_span_126 ?_
                              refine lv_topi (fun x_40 ex_40 => ?_)
                              have tx_40 : x_40.toInt = x_39.toInt + fr.toInt := v_add ex_40 (by show -2147483648 ≤ x_39.toInt + fr.toInt; omega) (by show x_39.toInt + fr.toInt < 2147483648; omega)
                              refine lv_iload hx hb dX12_span_127 (lv_at hl 1 rfl) ?_
                              refine lv_iadd hx hb dX12_span_129 ?_
                              refine lv_topi (fun x_41 ex_41 => ?_)
                              have tx_41 : x_41.toInt = x_40.toInt + k.toInt := v_add ex_41 (by show -2147483648 ≤ x_40.toInt + k.toInt; omega) (by show x_40.toInt + k.toInt < 2147483648; omega)
                              refine va_iald hx hb hK hP 1 0 rfl rfl (v_in (by omega)) dX12_span_130 ?_
                              refine lv_topi (fun x_42 ex_42 => ?_)
                              have tx_42 : -1 ≤ x_42.toInt ∧ x_42.toInt ≤ 65535 := rg_at g_eL ex_42
                              refine lv_iconst (v := (-1)) hx hb dX12_span_131 (by decide) ?_
                              refine lv_icmp_ne (tgt := 152) hx hb dX12_span_132 (by decide) (fun c_43 => ?_) (fun c_43 => ?_)
                              · have tc_43 : ¬ x_42.toInt = (-1) := v_ne c_43
                                refine lv_iconst (v := (-1)) hx hb dX12_span_152 (by decide) ?_
                                have hP9 := hP.sub (ws' := [(oM, .inr (12, [.ref mT, .int zt, .ref mS, .ref mX, .int zp, .int zf, .ref mL, .ref mB, .ref mD, .ref m1, .ref m2, .int zh, .ref mR, .int zr, .ref x1, .ref x2, .ref x3, .int zc, .ref mH, .int zy, .int za, .int zb, .int zs, .int zq, .int (-1), .int 0, .ref mY, .int zn, .ref mE, .int zm, .int zl, .ref mW, .int zk, .ref mO, .int zd, .ref y1, .ref y2, .ref y3, .ref y4, .ref mZ])), (mL, .inl (cI, 512, .inl eL)), (mB, .inl (cS, 131072, .inl eB)), (mD, .inl (cI, 2, .inl eD))]) [0, 1, 2, 3] rfl
                                have hD9 := hD.sub (ws' := [(oM, .inr (12, [.ref mT, .int zt, .ref mS, .ref mX, .int zp, .int zf, .ref mL, .ref mB, .ref mD, .ref m1, .ref m2, .int zh, .ref mR, .int zr, .ref x1, .ref x2, .ref x3, .int zc, .ref mH, .int zy, .int za, .int zb, .int zs, .int zq, .int (-1), .int 0, .ref mY, .int zn, .ref mE, .int zm, .int zl, .ref mW, .int zk, .ref mO, .int zd, .ref y1, .ref y2, .ref y3, .ref y4, .ref mZ])), (mL, .inl (cI, 512, .inl eL)), (mB, .inl (cS, 131072, .inl eB)), (mD, .inl (cI, 2, .inl eD))]) [0, 1, 2, 3] (by decide +kernel) rfl
                                rw [hQQ]
                                exact W.iret (v := (-1)) hx hb hr (fun t ht hW => ⟨⟨(-1), (-1), rfl, rfl, ⟨0, (-1), eL, eB, eD, zs, by rw [ht]; exact hP9, hD9, g_eL, g_eB, g_zs, by show zs.toInt ≤ zs.toInt + 1 ∧ zs.toInt ≤ zs.toInt; omega, Or.inr ⟨rfl, rfl, rfl, rfl, spanR_no (by omega) ex_35 ex_36 (by omega) (by omega) (fun z => c_43 (by rw [ex_42, ix_eq (x := x_41) (N := 256 * (cd.toInt - 4).toNat + (fr.toInt + k.toInt).toNat) (by omega)]; exact z.2.1))⟩, Or.inr ⟨fun ⟨t9, z1, z2, z3⟩ => (spanR_no (by omega) ex_35 ex_36 (by omega) (by omega) (fun z => c_43 (by rw [ex_42, ix_eq (x := x_41) (N := 256 * (cd.toInt - 4).toNat + (fr.toInt + k.toInt).toNat) (by omega)]; exact z.2.1))) t9 z1 z2 z3, rfl⟩⟩⟩, hS.F ht⟩) hS.2.2 dX12_span_153
                              · have tc_43 : x_42.toInt = (-1) := v_eq c_43
                                refine lv_aload_n hx hb dX12_span_135 rfl (lv_at hl 3 rfl) ?_
                                refine va_get (D := (dC, dI)) (ci := 12) (v := .ref mB) (C := RX12) (T := TX12) (N := 40) hx hb hts in_X12 hown hK hP 0 rfl rfl 7 (by decide) (hts (.fieldLink RX12 23 "TextMenderModel" "byteOfLetter" "[S") (List.mem_of_getElem? (i := 4) rfl)) (fun _ h9 => h9) rfl dX12_span_136 ?_
                                refine lv_ldc hx hb hown (hts (.constant RX12 88 (65536)) (List.mem_of_getElem? (i := 5) rfl)) dX12_span_139 ?_
                                refine lv_iload hx hb dX12_span_141 (lv_at hl 2 rfl) ?_
                                refine lv_imul hx hb dX12_span_143 ?_
                                refine lv_topi (fun x_44 ex_44 => ?_)
                                have tx_44 : x_44.toInt = 65536 * x_11.toInt := v_mul ex_44 (by show -2147483648 ≤ 65536 * x_11.toInt; omega) (by show 65536 * x_11.toInt < 2147483648; omega)
                                refine lv_iload hx hb dX12_span_144 (lv_at hl 0 rfl) ?_
                                refine lv_iadd hx hb dX12_span_146 ?_
                                refine lv_topi (fun x_45 ex_45 => ?_)
                                have tx_45 : x_45.toInt = x_44.toInt + x_36.toInt := v_add ex_45 (by show -2147483648 ≤ x_44.toInt + x_36.toInt; omega) (by show x_44.toInt + x_36.toInt < 2147483648; omega)
                                refine va_sald hx hb hK hP 2 1 rfl rfl (v_in (by omega)) dX12_span_147 ?_
                                refine lv_topi (fun x_46 ex_46 => ?_)
                                have tx_46 : -1 ≤ x_46.toInt ∧ x_46.toInt ≤ 255 := rg_at g_eB ex_46
                                refine lv_iconst (v := (-1)) hx hb dX12_span_148 (by decide) ?_
                                refine lv_icmp_eq (tgt := 154) hx hb dX12_span_149 (by decide) (fun c_47 => ?_) (fun c_47 => ?_)
                                · have tc_47 : x_46.toInt = (-1) := v_eq c_47
                                  obtain ⟨x_48, ex_48⟩ : ∃ y : Int32, y = k + 1 := ⟨_, rfl⟩
                                  have tx_48 : x_48.toInt = k.toInt + 1 := v_add ex_48 (by show -2147483648 ≤ k.toInt + 1; omega) (by show k.toInt + 1 < 2147483648; omega)
                                  refine lv_iinc (v := x_48) (lv' := [(7, .int x_48), (8, .int x_36), (6, .int x_11), (0, .ref oM), (1, .int cd), (2, .int fr), (3, .int n), (4, .int le), (5, .int sp)]) hx hb dX12_span_154 hl (k := 1) rfl (by rw [ex_48]; rfl) (by decide) rfl (fun ls hl => ?_)
                                  refine lv_goto (tgt := 91) hx hb dX12_span_157 (by decide) ?_
                                  exact ih_91 x_48 _ _ _ (ms_lt hm_91 (by show ((256 - x_48.toInt : Int)) < 256 - k.toInt; omega) (by show (0 : Int) < 256 - k.toInt; omega)) (by show 0 ≤ x_48.toInt ∧ x_48.toInt ≤ 256; omega) (CTk_s hct ex_35 ex_36 (by omega) (by unfold isLz; omega) (by unfold pL; rw [← ix_eq (x := x_41) (N := 256 * (cd.toInt - 4).toNat + (fr.toInt + k.toInt).toNat) (by omega), ← ex_42]; exact c_43) (by unfold pB; have c9 := v_clamp (x := x_36) (by omega); rw [← ix_eq (x := x_45) (N := 65536 * (cd.toInt - 4).toNat + x_36.toNatClampNeg) (by omega), ← ex_46]; exact c_47)) hP hD hS (lv_sub hl [0, 2, 3, 4, 5, 6, 7, 8] rfl)
                                · have tc_47 : ¬ x_46.toInt = (-1) := v_ne c_47
                                  refine lv_iconst (v := (-1)) hx hb dX12_span_152 (by decide) ?_
                                  have hP9 := hP.sub (ws' := [(oM, .inr (12, [.ref mT, .int zt, .ref mS, .ref mX, .int zp, .int zf, .ref mL, .ref mB, .ref mD, .ref m1, .ref m2, .int zh, .ref mR, .int zr, .ref x1, .ref x2, .ref x3, .int zc, .ref mH, .int zy, .int za, .int zb, .int zs, .int zq, .int (-1), .int 0, .ref mY, .int zn, .ref mE, .int zm, .int zl, .ref mW, .int zk, .ref mO, .int zd, .ref y1, .ref y2, .ref y3, .ref y4, .ref mZ])), (mL, .inl (cI, 512, .inl eL)), (mB, .inl (cS, 131072, .inl eB)), (mD, .inl (cI, 2, .inl eD))]) [0, 1, 2, 3] rfl
                                  have hD9 := hD.sub (ws' := [(oM, .inr (12, [.ref mT, .int zt, .ref mS, .ref mX, .int zp, .int zf, .ref mL, .ref mB, .ref mD, .ref m1, .ref m2, .int zh, .ref mR, .int zr, .ref x1, .ref x2, .ref x3, .int zc, .ref mH, .int zy, .int za, .int zb, .int zs, .int zq, .int (-1), .int 0, .ref mY, .int zn, .ref mE, .int zm, .int zl, .ref mW, .int zk, .ref mO, .int zd, .ref y1, .ref y2, .ref y3, .ref y4, .ref mZ])), (mL, .inl (cI, 512, .inl eL)), (mB, .inl (cS, 131072, .inl eB)), (mD, .inl (cI, 2, .inl eD))]) [0, 1, 2, 3] (by decide +kernel) rfl
                                  rw [hQQ]
                                  exact W.iret (v := (-1)) hx hb hr (fun t ht hW => ⟨⟨(-1), (-1), rfl, rfl, ⟨0, (-1), eL, eB, eD, zs, by rw [ht]; exact hP9, hD9, g_eL, g_eB, g_zs, by show zs.toInt ≤ zs.toInt + 1 ∧ zs.toInt ≤ zs.toInt; omega, Or.inr ⟨rfl, rfl, rfl, rfl, spanR_no (by omega) ex_35 ex_36 (by omega) (by omega) (fun z => c_47 (by have c9 := v_clamp (x := x_36) (by omega); rw [ex_46, ix_eq (x := x_45) (N := 65536 * (cd.toInt - 4).toNat + x_36.toNatClampNeg) (by omega)]; exact z.2.2))⟩, Or.inr ⟨fun ⟨t9, z1, z2, z3⟩ => (spanR_no (by omega) ex_35 ex_36 (by omega) (by omega) (fun z => c_47 (by have c9 := v_clamp (x := x_36) (by omega); rw [ex_46, ix_eq (x := x_45) (N := 65536 * (cd.toInt - 4).toNat + x_36.toNatClampNeg) (by omega)]; exact z.2.2))) t9 z1 z2 z3, rfl⟩⟩⟩, hS.F ht⟩) hS.2.2 dX12_span_153
                      exact LOOP_91 _ 0 _ _ _ (ms_s _) (by decide) (CTk_0 (by decide)) hP hD hS (lv_sub hl [0, 1, 2, 3, 4, 5, 6, 7] rfl)
                    · have tc_13 : r_12.toInt = 0 := v_eq c_13
                      refine lv_iconst (v := (-1)) hx hb dX12_span_86 (by decide) ?_
                      have hP9 := hP.sub (ws' := [(oM, .inr (12, [.ref mT, .int zt, .ref mS, .ref mX, .int zp, .int zf, .ref mL, .ref mB, .ref mD, .ref m1, .ref m2, .int zh, .ref mR, .int zr, .ref x1, .ref x2, .ref x3, .int zc, .ref mH, .int zy, .int za, .int zb, .int zs, .int zq, .int (-1), .int 0, .ref mY, .int zn, .ref mE, .int zm, .int zl, .ref mW, .int zk, .ref mO, .int zd, .ref y1, .ref y2, .ref y3, .ref y4, .ref mZ])), (mL, .inl (cI, 512, .inl eL)), (mB, .inl (cS, 131072, .inl eB)), (mD, .inl (cI, 2, .inl eD))]) [0, 1, 2, 3] rfl
                      have hD9 := hD.sub (ws' := [(oM, .inr (12, [.ref mT, .int zt, .ref mS, .ref mX, .int zp, .int zf, .ref mL, .ref mB, .ref mD, .ref m1, .ref m2, .int zh, .ref mR, .int zr, .ref x1, .ref x2, .ref x3, .int zc, .ref mH, .int zy, .int za, .int zb, .int zs, .int zq, .int (-1), .int 0, .ref mY, .int zn, .ref mE, .int zm, .int zl, .ref mW, .int zk, .ref mO, .int zd, .ref y1, .ref y2, .ref y3, .ref y4, .ref mZ])), (mL, .inl (cI, 512, .inl eL)), (mB, .inl (cS, 131072, .inl eB)), (mD, .inl (cI, 2, .inl eD))]) [0, 1, 2, 3] (by decide +kernel) rfl
                      rw [hQQ]
                      exact W.iret (v := (-1)) hx hb hr (fun t ht hW => ⟨⟨(-1), (-1), rfl, rfl, ⟨0, (-1), eL, eB, eD, zs, by rw [ht]; exact hP9, hD9, g_eL, g_eB, g_zs, by show zs.toInt ≤ zs.toInt + 1 ∧ zs.toInt ≤ zs.toInt; omega, Or.inr ⟨rfl, rfl, rfl, rfl, fun t h1 h2 c => by have c1 := c.1; unfold isLz at c1; omega⟩, Or.inr ⟨fun ⟨t9, z1, z2, z3⟩ => (fun t h1 h2 c => by have c1 := c.1; unfold isLz at c1; omega) t9 z1 z2 z3, rfl⟩⟩⟩, hS.F ht⟩) hS.2.2 dX12_span_87
                  · have tc_10 : 1 < n.toInt := v_nle c_10
                    refine lv_iload hx hb dX12_span_66 (lv_at hl 5 rfl) ?_
                    refine lv_if_ne (tgt := 73) hx hb dX12_span_68 (by decide) (fun c_49 => ?_) (fun c_49 => ?_)
                    · have tc_49 : ¬ sp.toInt = 0 := v_ne c_49
                      refine lv_iload_n hx hb dX12_span_73 rfl (lv_at hl 1 rfl) ?_
                      refine lv_iconst (v := 4) hx hb dX12_span_74 (by decide) ?_
                      refine lv_isub hx hb dX12_span_75 ?_
                      refine lv_topi (fun x_50 ex_50 => ?_)
                      have tx_50 : x_50.toInt = cd.toInt - 4 := v_sub ex_50 (by show -2147483648 ≤ cd.toInt - 4; omega) (by show cd.toInt - 4 < 2147483648; omega)
                      refine lv_istore (lv' := [(6, .int x_50), (0, .ref oM), (1, .int cd), (2, .int fr), (3, .int n), (4, .int le), (5, .int sp)]) hx hb dX12_span_76 hl (by decide) rfl (fun ls hl => ?_)
                      refine lv_iload hx hb dX12_span_78 (lv_at hl 5 rfl) ?_
                      have hPc := hP.sub (ws' := []) [] rfl
                      have hDc := hD.sub (ws' := []) [] (by decide +kernel) rfl
                      have hFc := va_free (wc := []) hD hS hA [] rfl
                      refine va_calli (va_runS (As := [.int le]) (rest := []) ⟨hx, hb, hml, hown, hts⟩ (m_X12_isLetter l dC dI cI cS H.size le ) (va_cwS 1 hts gX12_span_X12_isLetter rfl rfl rfl (by decide +kernel) ⟨Nat.le_of_ble_eq_true rfl, Nat.le_of_ble_eq_true rfl⟩) ⟨fun a U g mk q => by obtain ⟨q0, q1, qP, qK, qD⟩ := q; exact ⟨q0, q1, qP, va_K.moved (u := U) (U := U.calling g mk a) (Vm.Alike.refl U.vm) qK, qD⟩, fun U hU hW => ⟨rfl, by rw [hU], by rw [hU]; exact hPc, va_K.moved hW.alike hK, hDc.weaken (fun _ _ _ _ => trivial)⟩⟩ rfl rfl hl.1 rfl (lv_room (Nat.le_of_ble_eq_true rfl)) dX12_span_80 ⟨Nat.le_of_ble_eq_true rfl, Nat.le_of_ble_eq_true rfl⟩) hS (fun q _ h => hFc q h) hFc (fun r_51 u t H1 locs ht hvm hw hB hz1 hk1 hSn => ?_)
                      subst hw
                      obtain ⟨hP1, hD1, hf51_0, hf51_1⟩ := hB
                      rw [ht] at hP1
                      obtain ⟨hPn, hDn⟩ := va_join (wr := [(oM, .inr (12, [.ref mT, .int zt, .ref mS, .ref mX, .int zp, .int zf, .ref mL, .ref mB, .ref mD, .ref m1, .ref m2, .int zh, .ref mR, .int zr, .ref x1, .ref x2, .ref x3, .int zc, .ref mH, .int zy, .int za, .int zb, .int zs, .int zq, .int (-1), .int 0, .ref mY, .int zn, .ref mE, .int zm, .int zl, .ref mW, .int zk, .ref mO, .int zd, .ref y1, .ref y2, .ref y3, .ref y4, .ref mZ])), (mL, .inl (cI, 512, .inl eL)), (mB, .inl (cS, 131072, .inl eB)), (mD, .inl (cI, 2, .inl eD))]) (w1 := []) hP hD [] [0, 1, 2, 3] rfl rfl (by decide +kernel) (by decide +kernel) hk1 hFc hP1 hD1
                      clear hP hD hS hPc hDc hFc hk1 hz1 hvm ht hP1 hD1
                      generalize H1 = H at hPn hSn ⊢
                      have hP : va_P (dC, dI) vwCl [(oM, .inr (12, [.ref mT, .int zt, .ref mS, .ref mX, .int zp, .int zf, .ref mL, .ref mB, .ref mD, .ref m1, .ref m2, .int zh, .ref mR, .int zr, .ref x1, .ref x2, .ref x3, .int zc, .ref mH, .int zy, .int za, .int zb, .int zs, .int zq, .int (-1), .int 0, .ref mY, .int zn, .ref mE, .int zm, .int zl, .ref mW, .int zk, .ref mO, .int zd, .ref y1, .ref y2, .ref y3, .ref y4, .ref mZ])), (mL, .inl (cI, 512, .inl eL)), (mB, .inl (cS, 131072, .inl eB)), (mD, .inl (cI, 2, .inl eD))] H := hPn
                      have hD : va_D A [(oM, .inr (12, [.ref mT, .int zt, .ref mS, .ref mX, .int zp, .int zf, .ref mL, .ref mB, .ref mD, .ref m1, .ref m2, .int zh, .ref mR, .int zr, .ref x1, .ref x2, .ref x3, .int zc, .ref mH, .int zy, .int za, .int zb, .int zs, .int zq, .int (-1), .int 0, .ref mY, .int zn, .ref mE, .int zm, .int zl, .ref mW, .int zk, .ref mO, .int zd, .ref y1, .ref y2, .ref y3, .ref y4, .ref mZ])), (mL, .inl (cI, 512, .inl eL)), (mB, .inl (cS, 131072, .inl eB)), (mD, .inl (cI, 2, .inl eD))] := hDn
                      have hS := hSn
                      clear hPn hDn hSn
                      refine lv_if_ne (tgt := 88) hx hb dX12_span_83 (by decide) (fun c_52 => ?_) (fun c_52 => ?_)
                      · have tc_52 : ¬ r_51.toInt = 0 := v_ne c_52
                        refine lv_iconst (v := 0) hx hb dX12_span_88 (by decide) ?_
                        refine lv_istore (lv' := [(7, .int 0), (6, .int x_50), (0, .ref oM), (1, .int cd), (2, .int fr), (3, .int n), (4, .int le), (5, .int sp)]) hx hb dX12_span_89 hl (by decide) rfl (fun ls hl => ?_)
                        have LOOP_91 : ∀ (k_91 : Nat) (k : Int32) (H : Heap) (locs : List Loc) (ls : Array Slot), MSd (256 - k.toInt : Int) k_91 → (0 ≤ k.toInt ∧ k.toInt ≤ 256) → (CTk k.toInt fr le sp (pL (cd.toInt - 4).toNat eL) (pB (cd.toInt - 4).toNat eB)) → va_P (dC, dI) vwCl [(oM, .inr (12, [.ref mT, .int zt, .ref mS, .ref mX, .int zp, .int zf, .ref mL, .ref mB, .ref mD, .ref m1, .ref m2, .int zh, .ref mR, .int zr, .ref x1, .ref x2, .ref x3, .int zc, .ref mH, .int zy, .int za, .int zb, .int zs, .int zq, .int (-1), .int 0, .ref mY, .int zn, .ref mE, .int zm, .int zl, .ref mW, .int zk, .ref mO, .int zd, .ref y1, .ref y2, .ref y3, .ref y4, .ref mZ])), (mL, .inl (cI, 512, .inl eL)), (mB, .inl (cS, 131072, .inl eB)), (mD, .inl (cI, 2, .inl eD))] H → va_D A [(oM, .inr (12, [.ref mT, .int zt, .ref mS, .ref mX, .int zp, .int zf, .ref mL, .ref mB, .ref mD, .ref m1, .ref m2, .int zh, .ref mR, .int zr, .ref x1, .ref x2, .ref x3, .int zc, .ref mH, .int zy, .int za, .int zb, .int zs, .int zq, .int (-1), .int 0, .ref mY, .int zn, .ref mE, .int zm, .int zl, .ref mW, .int zk, .ref mO, .int zd, .ref y1, .ref y2, .ref y3, .ref y4, .ref mZ])), (mL, .inl (cI, 512, .inl eL)), (mB, .inl (cS, 131072, .inl eB)), (mD, .inl (cI, 2, .inl eD))] → va_S A s.heap H locs → lv_has ls 9 [(7, .int k), (6, .int x_50), (0, .ref oM), (1, .int cd), (2, .int fr), (3, .int n), (4, .int le), (5, .int sp)] → W p l e (headSpec wsX12_span ({ frames := 1, cells := 0, slots := 0, locals := 20 } : Room)).room s m ([.ref oM, .int cd, .int fr, .int n, .int le, .int sp] : List Value).toArray below meth c H locs 0 0 (MQ below QQ ([.ref oM, .int cd, .int fr, .int n, .int le, .int sp] : List Value).toArray s 0 0 A) (F0 m 91 ls []) := by
                          clear hP hD hS hl
                          intro k_91
                          induction k_91 with
                          | zero =>
                            intro k H locs ls hm_91 g_k hct hP hD hS hl
                            exact ms_0 hm_91
                          | succ k_91 ih_91 =>
                            intro k H locs ls hm_91 g_k hct hP hD hS hl
                            refine lv_iload hx hb dX12_span_91 (lv_at hl 0 rfl) ?_
                            refine lv_iload_n hx hb dX12_span_93 rfl (lv_at hl 5 rfl) ?_
                            refine lv_icmp_ge (tgt := 160) hx hb dX12_span_94 (by decide) (fun c_53 => ?_) (fun c_53 => ?_)
                            · have tc_53 : n.toInt ≤ k.toInt := v_le c_53
                              have hCT : CT fr n le sp (pL (cd.toInt - 4).toNat eL) (pB (cd.toInt - 4).toNat eB) := ⟨by unfold isLz; omega, CTk_le hct (by omega)⟩
                              have hokn : ∀ q : Int32, 0 ≤ q.toInt → q.toInt < n.toInt → 0 ≤ (le + q * sp).toInt ∧ (le + q * sp).toInt ≤ 65535 := fun q h1 h2 => ⟨(hCT.2 q h1 h2).1.1, (hCT.2 q h1 h2).1.2.1⟩
                              refine lv_iconst (v := 0) hx hb dX12_span_160 (by decide) ?_
                              refine lv_istore (lv' := [(7, .int 0), (6, .int x_50), (0, .ref oM), (1, .int cd), (2, .int fr), (3, .int n), (4, .int le), (5, .int sp)]) hx hb dX12_span_161 hl (by decide) rfl (fun ls hl => ?_)
                              have LOOP_163 : ∀ (k_163 : Nat) (k2 : Int32) (eLa : Nat → Int32) (eBa : Nat → Int32) (H : Heap) (locs : List Loc) (ls : Array Slot), MSd (256 - k2.toInt : Int) k_163 → (0 ≤ k2.toInt ∧ k2.toInt ≤ 256) → (rg (-1) 65535 eLa) → (rg (-1) 255 eBa) → (k2.toInt ≤ n.toInt) → (SPR (cd.toInt - 4).toNat k2 fr le sp eL eB eLa eBa) → va_P (dC, dI) vwCl [(oM, .inr (12, [.ref mT, .int zt, .ref mS, .ref mX, .int zp, .int zf, .ref mL, .ref mB, .ref mD, .ref m1, .ref m2, .int zh, .ref mR, .int zr, .ref x1, .ref x2, .ref x3, .int zc, .ref mH, .int zy, .int za, .int zb, .int zs, .int zq, .int (-1), .int 0, .ref mY, .int zn, .ref mE, .int zm, .int zl, .ref mW, .int zk, .ref mO, .int zd, .ref y1, .ref y2, .ref y3, .ref y4, .ref mZ])), (mL, .inl (cI, 512, .inl eLa)), (mB, .inl (cS, 131072, .inl eBa)), (mD, .inl (cI, 2, .inl eD))] H → va_D A [(oM, .inr (12, [.ref mT, .int zt, .ref mS, .ref mX, .int zp, .int zf, .ref mL, .ref mB, .ref mD, .ref m1, .ref m2, .int zh, .ref mR, .int zr, .ref x1, .ref x2, .ref x3, .int zc, .ref mH, .int zy, .int za, .int zb, .int zs, .int zq, .int (-1), .int 0, .ref mY, .int zn, .ref mE, .int zm, .int zl, .ref mW, .int zk, .ref mO, .int zd, .ref y1, .ref y2, .ref y3, .ref y4, .ref mZ])), (mL, .inl (cI, 512, .inl eLa)), (mB, .inl (cS, 131072, .inl eBa)), (mD, .inl (cI, 2, .inl eD))] → va_S A s.heap H locs → lv_has ls 9 [(7, .int k2), (6, .int x_50), (0, .ref oM), (1, .int cd), (2, .int fr), (3, .int n), (4, .int le), (5, .int sp)] → W p l e (headSpec wsX12_span ({ frames := 1, cells := 0, slots := 0, locals := 20 } : Room)).room s m ([.ref oM, .int cd, .int fr, .int n, .int le, .int sp] : List Value).toArray below meth c H locs 0 0 (MQ below QQ ([.ref oM, .int cd, .int fr, .int n, .int le, .int sp] : List Value).toArray s 0 0 A) (F0 m 163 ls []) := by
                                clear hP hD hS hl
                                intro k_163
                                induction k_163 with
                                | zero =>
                                  intro k2 eLa eBa H locs ls hm_163 g_k2 g_eLa g_eBa hkn hspr hP hD hS hl
                                  exact ms_0 hm_163
                                | succ k_163 ih_163 =>
                                  intro k2 eLa eBa H locs ls hm_163 g_k2 g_eLa g_eBa hkn hspr hP hD hS hl
                                  refine lv_iload hx hb dX12_span_163 (lv_at hl 0 rfl) ?_
                                  refine lv_iload_n hx hb dX12_span_165 rfl (lv_at hl 5 rfl) ?_
                                  refine lv_icmp_ge (tgt := 223) hx hb dX12_span_166 (by decide) (fun c_54 => ?_) (fun c_54 => ?_)
                                  · have tc_54 : n.toInt ≤ k2.toInt := v_le c_54
                                    refine lv_aload_n hx hb dX12_span_223 rfl (lv_at hl 2 rfl) ?_
                                    refine va_get (D := (dC, dI)) (ci := 12) (v := .ref mD) (C := RX12) (T := TX12) (N := 40) hx hb hts in_X12 hown hK hP 0 rfl rfl 8 (by decide) (hts (.fieldLink RX12 27 "TextMenderModel" "told" "[I") (List.mem_of_getElem? (i := 6) rfl)) (fun _ h9 => h9) rfl dX12_span_224 ?_
                                    refine lv_iload hx hb dX12_span_227 (lv_at hl 1 rfl) ?_
                                    refine lv_dup2_11 hx hb dX12_span_229 rfl rfl ?_
                                    refine va_iald hx hb hK hP 3 0 rfl rfl (v_in (by omega)) dX12_span_230 ?_
                                    refine lv_topi (fun x_55 ex_55 => ?_)
                                    refine lv_iload_n hx hb dX12_span_231 rfl (lv_at hl 5 rfl) ?_
                                    refine lv_iadd hx hb dX12_span_232 ?_
                                    refine lv_topi (fun x_56 ex_56 => ?_)
                                    have rv56_0 := v_rng x_55
                                    refine va_iast hx hb hK hP hD hS 3 0 rfl rfl (v_in (by omega)) dX12_span_233 (fun H locs hPn hDn hSn => ?_)
                                    clear hP hD hS
                                    have hP : va_P (dC, dI) vwCl [(oM, .inr (12, [.ref mT, .int zt, .ref mS, .ref mX, .int zp, .int zf, .ref mL, .ref mB, .ref mD, .ref m1, .ref m2, .int zh, .ref mR, .int zr, .ref x1, .ref x2, .ref x3, .int zc, .ref mH, .int zy, .int za, .int zb, .int zs, .int zq, .int (-1), .int 0, .ref mY, .int zn, .ref mE, .int zm, .int zl, .ref mW, .int zk, .ref mO, .int zd, .ref y1, .ref y2, .ref y3, .ref y4, .ref mZ])), (mL, .inl (cI, 512, .inl eLa)), (mB, .inl (cS, 131072, .inl eBa)), (mD, .inl (cI, 2, .inl (upd eD (x_50 : Int32).toNatClampNeg x_56)))] H := hPn
                                    have hD : va_D A [(oM, .inr (12, [.ref mT, .int zt, .ref mS, .ref mX, .int zp, .int zf, .ref mL, .ref mB, .ref mD, .ref m1, .ref m2, .int zh, .ref mR, .int zr, .ref x1, .ref x2, .ref x3, .int zc, .ref mH, .int zy, .int za, .int zb, .int zs, .int zq, .int (-1), .int 0, .ref mY, .int zn, .ref mE, .int zm, .int zl, .ref mW, .int zk, .ref mO, .int zd, .ref y1, .ref y2, .ref y3, .ref y4, .ref mZ])), (mL, .inl (cI, 512, .inl eLa)), (mB, .inl (cS, 131072, .inl eBa)), (mD, .inl (cI, 2, .inl (upd eD (x_50 : Int32).toNatClampNeg x_56)))] := hDn
                                    have hS := hSn
                                    clear hPn hDn hSn
                                    obtain ⟨f_57, ef_57⟩ : ∃ g : Nat → Int32, g = upd eD (x_50 : Int32).toNatClampNeg x_56 := ⟨_, rfl⟩
                                    rw [← ef_57] at hP hD
                                    refine lv_aload_n hx hb dX12_span_234 rfl (lv_at hl 2 rfl) ?_
                                    refine lv_dup hx hb dX12_span_235 rfl ?_
                                    refine va_get (D := (dC, dI)) (ci := 12) (v := .int zs) (C := RX12) (T := TX12) (N := 40) hx hb hts in_X12 hown hK hP 0 rfl rfl 22 (by decide) (hts (.fieldLink RX12 148 "TextMenderModel" "state" "I") (List.mem_of_getElem? (i := 7) rfl)) (fun _ h9 => h9) rfl dX12_span_236 ?_
                                    refine lv_iconst (v := 1) hx hb dX12_span_239 (by decide) ?_
                                    refine lv_iadd hx hb dX12_span_240 ?_
                                    refine lv_topi (fun x_58 ex_58 => ?_)
                                    have tx_58 : x_58.toInt = zs.toInt + 1 := v_add ex_58 (by show -2147483648 ≤ zs.toInt + 1; omega) (by show zs.toInt + 1 < 2147483648; omega)
                                    refine va_put (D := (dC, dI)) (ci := 12) (v := .int x_58) (ty := .int) (C := RX12) (T := TX12) (N := 40) hx hb hts in_X12 tyX12 tyX12_ok nmX12 hown hK hP hD hS 0 rfl rfl 22 (by decide) (hts (.fieldLink RX12 148 "TextMenderModel" "state" "I") (List.mem_of_getElem? (i := 7) rfl)) (fun _ h9 => h9) rfl (by decide +kernel) rfl rfl (Nat.le_of_ble_eq_true rfl) dX12_span_241 (fun H locs hPn hDn hSn => ?_)
                                    clear hP hD hS
                                    have hP : va_P (dC, dI) vwCl [(oM, .inr (12, [.ref mT, .int zt, .ref mS, .ref mX, .int zp, .int zf, .ref mL, .ref mB, .ref mD, .ref m1, .ref m2, .int zh, .ref mR, .int zr, .ref x1, .ref x2, .ref x3, .int zc, .ref mH, .int zy, .int za, .int zb, .int x_58, .int zq, .int (-1), .int 0, .ref mY, .int zn, .ref mE, .int zm, .int zl, .ref mW, .int zk, .ref mO, .int zd, .ref y1, .ref y2, .ref y3, .ref y4, .ref mZ])), (mL, .inl (cI, 512, .inl eLa)), (mB, .inl (cS, 131072, .inl eBa)), (mD, .inl (cI, 2, .inl f_57))] H := hPn
                                    have hD : va_D A [(oM, .inr (12, [.ref mT, .int zt, .ref mS, .ref mX, .int zp, .int zf, .ref mL, .ref mB, .ref mD, .ref m1, .ref m2, .int zh, .ref mR, .int zr, .ref x1, .ref x2, .ref x3, .int zc, .ref mH, .int zy, .int za, .int zb, .int x_58, .int zq, .int (-1), .int 0, .ref mY, .int zn, .ref mE, .int zm, .int zl, .ref mW, .int zk, .ref mO, .int zd, .ref y1, .ref y2, .ref y3, .ref y4, .ref mZ])), (mL, .inl (cI, 512, .inl eLa)), (mB, .inl (cS, 131072, .inl eBa)), (mD, .inl (cI, 2, .inl f_57))] := hDn
                                    have hS := hSn
                                    clear hPn hDn hSn
                                    refine lv_aload_n hx hb dX12_span_244 rfl (lv_at hl 2 rfl) ?_
                                    refine va_get (D := (dC, dI)) (ci := 12) (v := .ref mD) (C := RX12) (T := TX12) (N := 40) hx hb hts in_X12 hown hK hP 0 rfl rfl 8 (by decide) (hts (.fieldLink RX12 27 "TextMenderModel" "told" "[I") (List.mem_of_getElem? (i := 6) rfl)) (fun _ h9 => h9) rfl dX12_span_245 ?_
                                    refine lv_iload hx hb dX12_span_248 (lv_at hl 1 rfl) ?_
                                    refine va_iald hx hb hK hP 3 0 rfl rfl (v_in (by omega)) dX12_span_250 ?_
                                    refine lv_topi (fun x_59 ex_59 => ?_)
                                    have hP9 := hP.sub (ws' := [(oM, .inr (12, [.ref mT, .int zt, .ref mS, .ref mX, .int zp, .int zf, .ref mL, .ref mB, .ref mD, .ref m1, .ref m2, .int zh, .ref mR, .int zr, .ref x1, .ref x2, .ref x3, .int zc, .ref mH, .int zy, .int za, .int zb, .int x_58, .int zq, .int (-1), .int 0, .ref mY, .int zn, .ref mE, .int zm, .int zl, .ref mW, .int zk, .ref mO, .int zd, .ref y1, .ref y2, .ref y3, .ref y4, .ref mZ])), (mL, .inl (cI, 512, .inl eLa)), (mB, .inl (cS, 131072, .inl eBa)), (mD, .inl (cI, 2, .inl f_57))]) [0, 1, 2, 3] rfl
                                    have hD9 := hD.sub (ws' := [(oM, .inr (12, [.ref mT, .int zt, .ref mS, .ref mX, .int zp, .int zf, .ref mL, .ref mB, .ref mD, .ref m1, .ref m2, .int zh, .ref mR, .int zr, .ref x1, .ref x2, .ref x3, .int zc, .ref mH, .int zy, .int za, .int zb, .int x_58, .int zq, .int (-1), .int 0, .ref mY, .int zn, .ref mE, .int zm, .int zl, .ref mW, .int zk, .ref mO, .int zd, .ref y1, .ref y2, .ref y3, .ref y4, .ref mZ])), (mL, .inl (cI, 512, .inl eLa)), (mB, .inl (cS, 131072, .inl eBa)), (mD, .inl (cI, 2, .inl f_57))]) [0, 1, 2, 3] (by decide +kernel) rfl
                                    rw [hQQ]
                                    exact W.iret (v := x_59) hx hb hr (fun t ht hW => ⟨⟨x_59, x_59, rfl, rfl, ⟨0, (-1), eLa, eBa, f_57, x_58, by rw [ht]; exact hP9, hD9, g_eLa, g_eBa, by omega, by show x_58.toInt ≤ zs.toInt + 1 ∧ zs.toInt ≤ x_58.toInt; omega, Or.inl ⟨(cd.toInt - 4).toNat, by omega, by omega, hCT, SPR_n hspr (by omega), (spanR_d (cd := cd) (by omega) (by omega) ex_55 ex_56 ef_57 ex_59).1, (spanR_d (cd := cd) (by omega) (by omega) ex_55 ex_56 ef_57 ex_59).2⟩, Or.inl ⟨⟨(cd.toInt - 4).toNat, by omega, by omega, hCT⟩, by omega⟩⟩⟩, hS.F ht⟩) hS.2.2 dX12_span_251
                                  · have tc_54 : k2.toInt < n.toInt := v_nle c_54
                                    refine lv_aload_n hx hb dX12_span_169 rfl (lv_at hl 2 rfl) ?_
                                    refine va_get (D := (dC, dI)) (ci := 12) (v := .ref mL) (C := RX12) (T := TX12) (N := 40) hx hb hts in_X12 hown hK hP 0 rfl rfl 6 (by decide) (hts (.fieldLink RX12 19 "TextMenderModel" "letterOf" "[I") (List.mem_of_getElem? (i := 3) rfl)) (fun _ h9 => h9) rfl dX12_span_170 ?_
                                    refine lv_sipush (v := 256) hx hb dX12_span_173 (by decide) ?_
                                    refine lv_iload hx hb dX12_span_176 (lv_at hl 1 rfl) ?_
                                    refine lv_imul hx hb dX12_span_178 ?_
                                    refine lv_topi (fun x_60 ex_60 => ?_)
                                    have tx_60 : x_60.toInt = 256 * x_50.toInt := v_mul ex_60 (by show -2147483648 ≤ 256 * x_50.toInt; omega) (by show 256 * x_50.toInt < 2147483648; omega)
                                    refine lv_iload_n hx hb dX12_span_179 rfl (lv_at hl 4 rfl) ?_
                                    refine lv_iadd hx hb dX12_span_180 ?_
                                    refine lv_topi (fun x_61 ex_61 => ?_)
                                    have tx_61 : x_61.toInt = x_60.toInt + fr.toInt := v_add ex_61 (by show -2147483648 ≤ x_60.toInt + fr.toInt; omega) (by show x_60.toInt + fr.toInt < 2147483648; omega)
                                    refine lv_iload hx hb dX12_span_181 (lv_at hl 0 rfl) ?_
                                    refine lv_iadd hx hb dX12_span_183 ?_
                                    refine lv_topi (fun x_62 ex_62 => ?_)
                                    have tx_62 : x_62.toInt = x_61.toInt + k2.toInt := v_add ex_62 (by show -2147483648 ≤ x_61.toInt + k2.toInt; omega) (by show x_61.toInt + k2.toInt < 2147483648; omega)
                                    refine lv_iload hx hb dX12_span_184 (lv_at hl 6 rfl) ?_
                                    refine lv_iload hx hb dX12_span_186 (lv_at hl 0 rfl) ?_
                                    refine lv_iload hx hb dX12_span_188 (lv_at hl 7 rfl) ?_
                                    refine lv_imul hx hb dX12_span_190 ?_
                                    refine lv_topi (fun x_63 ex_63 => ?_)
                                    refine lv_iadd hx hb dX12_span_191 ?_
                                    refine lv_topi (fun x_64 ex_64 => ?_)
                                    have rv64_1 := v_rng x_63
                                    have ts_x_64 := sp_at (n := n.toInt) hokn ex_63 ex_64 (by omega) (by omega)
                                    refine va_iast hx hb hK hP hD hS 1 0 rfl rfl (v_in (by omega)) dX12_span_192 (fun H locs hPn hDn hSn => ?_)
                                    clear hP hD hS
                                    have hP : va_P (dC, dI) vwCl [(oM, .inr (12, [.ref mT, .int zt, .ref mS, .ref mX, .int zp, .int zf, .ref mL, .ref mB, .ref mD, .ref m1, .ref m2, .int zh, .ref mR, .int zr, .ref x1, .ref x2, .ref x3, .int zc, .ref mH, .int zy, .int za, .int zb, .int zs, .int zq, .int (-1), .int 0, .ref mY, .int zn, .ref mE, .int zm, .int zl, .ref mW, .int zk, .ref mO, .int zd, .ref y1, .ref y2, .ref y3, .ref y4, .ref mZ])), (mL, .inl (cI, 512, .inl (upd eLa (x_62 : Int32).toNatClampNeg x_64))), (mB, .inl (cS, 131072, .inl eBa)), (mD, .inl (cI, 2, .inl eD))] H := hPn
                                    have hD : va_D A [(oM, .inr (12, [.ref mT, .int zt, .ref mS, .ref mX, .int zp, .int zf, .ref mL, .ref mB, .ref mD, .ref m1, .ref m2, .int zh, .ref mR, .int zr, .ref x1, .ref x2, .ref x3, .int zc, .ref mH, .int zy, .int za, .int zb, .int zs, .int zq, .int (-1), .int 0, .ref mY, .int zn, .ref mE, .int zm, .int zl, .ref mW, .int zk, .ref mO, .int zd, .ref y1, .ref y2, .ref y3, .ref y4, .ref mZ])), (mL, .inl (cI, 512, .inl (upd eLa (x_62 : Int32).toNatClampNeg x_64))), (mB, .inl (cS, 131072, .inl eBa)), (mD, .inl (cI, 2, .inl eD))] := hDn
                                    have hS := hSn
                                    clear hPn hDn hSn
                                    obtain ⟨f_65, ef_65⟩ : ∃ g : Nat → Int32, g = upd eLa (x_62 : Int32).toNatClampNeg x_64 := ⟨_, rfl⟩
                                    rw [← ef_65] at hP hD
                                    have g_f65 : rg (-1) 65535 f_65 := rg_upd ef_65 g_eLa (by omega)
                                    refine lv_aload_n hx hb dX12_span_193 rfl (lv_at hl 2 rfl) ?_
                                    refine va_get (D := (dC, dI)) (ci := 12) (v := .ref mB) (C := RX12) (T := TX12) (N := 40) hx hb hts in_X12 hown hK hP 0 rfl rfl 7 (by decide) (hts (.fieldLink RX12 23 "TextMenderModel" "byteOfLetter" "[S") (List.mem_of_getElem? (i := 4) rfl)) (fun _ h9 => h9) rfl dX12_span_194 ?_
                                    refine lv_ldc hx hb hown (hts (.constant RX12 88 (65536)) (List.mem_of_getElem? (i := 5) rfl)) dX12_span_197 ?_
                                    refine lv_iload hx hb dX12_span_199 (lv_at hl 1 rfl) ?_
                                    refine lv_imul hx hb dX12_span_201 ?_
                                    refine lv_topi (fun x_66 ex_66 => ?_)
                                    have tx_66 : x_66.toInt = 65536 * x_50.toInt := v_mul ex_66 (by show -2147483648 ≤ 65536 * x_50.toInt; omega) (by show 65536 * x_50.toInt < 2147483648; omega)
                                    refine lv_iload hx hb dX12_span_202 (lv_at hl 6 rfl) ?_
                                    refine lv_iadd hx hb dX12_span_204 ?_
                                    refine lv_topi (fun x_67 ex_67 => ?_)
                                    have tx_67 : x_67.toInt = x_66.toInt + le.toInt := v_add ex_67 (by show -2147483648 ≤ x_66.toInt + le.toInt; omega) (by show x_66.toInt + le.toInt < 2147483648; omega)
                                    refine lv_iload hx hb dX12_span_205 (lv_at hl 0 rfl) ?_
                                    refine lv_iload hx hb dX12_span_207 (lv_at hl 7 rfl) ?_
                                    refine lv_imul hx hb dX12_span_209 ?_
                                    refine lv_topi (fun x_68 ex_68 => ?_)
                                    refine lv_iadd hx hb dX12_span_210 ?_
                                    refine lv_topi (fun x_69 ex_69 => ?_)
                                    have rv69_1 := v_rng x_68
                                    have ts_x_69 := sp_ix (n := n.toInt) hokn ex_68 ex_67 ex_69 (by omega) (by omega) (by omega)
                                    refine lv_iload_n hx hb dX12_span_211 rfl (lv_at hl 4 rfl) ?_
                                    refine lv_iload hx hb dX12_span_212 (lv_at hl 0 rfl) ?_
                                    refine lv_iadd hx hb dX12_span_214 ?_
                                    refine lv_topi (fun x_70 ex_70 => ?_)
                                    have tx_70 : x_70.toInt = fr.toInt + k2.toInt := v_add ex_70 (by show -2147483648 ≤ fr.toInt + k2.toInt; omega) (by show fr.toInt + k2.toInt < 2147483648; omega)
                                    obtain ⟨x_71, ex_71⟩ : ∃ v : Int32, v = (x_70 : Int32).toInt16.toInt32 := ⟨_, rfl⟩
                                    refine lv_i2s (v := x_71) hx hb dX12_span_215 ex_71.symm ?_
                                    have tx_71 : x_71.toInt = x_70.toInt := v_i2s ex_71 (by omega)
                                    refine va_sast hx hb hK hP hD hS 2 1 rfl rfl (v_in (by omega)) dX12_span_216 (fun H locs hPn hDn hSn => ?_)
                                    clear hP hD hS
                                    have hP : va_P (dC, dI) vwCl [(oM, .inr (12, [.ref mT, .int zt, .ref mS, .ref mX, .int zp, .int zf, .ref mL, .ref mB, .ref mD, .ref m1, .ref m2, .int zh, .ref mR, .int zr, .ref x1, .ref x2, .ref x3, .int zc, .ref mH, .int zy, .int za, .int zb, .int zs, .int zq, .int (-1), .int 0, .ref mY, .int zn, .ref mE, .int zm, .int zl, .ref mW, .int zk, .ref mO, .int zd, .ref y1, .ref y2, .ref y3, .ref y4, .ref mZ])), (mL, .inl (cI, 512, .inl f_65)), (mB, .inl (cS, 131072, .inl (upd eBa (x_69 : Int32).toNatClampNeg (vp_nar .short x_71)))), (mD, .inl (cI, 2, .inl eD))] H := hPn
                                    have hD : va_D A [(oM, .inr (12, [.ref mT, .int zt, .ref mS, .ref mX, .int zp, .int zf, .ref mL, .ref mB, .ref mD, .ref m1, .ref m2, .int zh, .ref mR, .int zr, .ref x1, .ref x2, .ref x3, .int zc, .ref mH, .int zy, .int za, .int zb, .int zs, .int zq, .int (-1), .int 0, .ref mY, .int zn, .ref mE, .int zm, .int zl, .ref mW, .int zk, .ref mO, .int zd, .ref y1, .ref y2, .ref y3, .ref y4, .ref mZ])), (mL, .inl (cI, 512, .inl f_65)), (mB, .inl (cS, 131072, .inl (upd eBa (x_69 : Int32).toNatClampNeg (vp_nar .short x_71)))), (mD, .inl (cI, 2, .inl eD))] := hDn
                                    have hS := hSn
                                    clear hPn hDn hSn
                                    obtain ⟨f_72, ef_72⟩ : ∃ g : Nat → Int32, g = upd eBa (x_69 : Int32).toNatClampNeg (vp_nar .short x_71) := ⟨_, rfl⟩
                                    rw [← ef_72] at hP hD
                                    have g_f72 : rg (-1) 255 f_72 := rg_upd ef_72 g_eBa (v_nars (by omega) (by omega))
                                    obtain ⟨x_73, ex_73⟩ : ∃ y : Int32, y = k2 + 1 := ⟨_, rfl⟩
                                    have tx_73 : x_73.toInt = k2.toInt + 1 := v_add ex_73 (by show -2147483648 ≤ k2.toInt + 1; omega) (by show k2.toInt + 1 < 2147483648; omega)
                                    refine lv_iinc (v := x_73) (lv' := [(7, .int x_73), (6, .int x_50), (0, .ref oM), (1, .int cd), (2, .int fr), (3, .int n), (4, .int le), (5, .int sp)]) hx hb dX12_span_217 hl (k := 0) rfl (by rw [ex_73]; rfl) (by decide) rfl (fun ls hl => ?_)
                                    refine lv_goto (tgt := 163) hx hb dX12_span_220 (by decide) ?_
                                    exact ih_163 x_73 f_65 f_72 _ _ _ (ms_lt hm_163 (by show ((256 - x_73.toInt : Int)) < 256 - k2.toInt; omega) (by show (0 : Int) < 256 - k2.toInt; omega)) (by show 0 ≤ x_73.toInt ∧ x_73.toInt ≤ 256; omega) (g_f65) (g_f72) (by show x_73.toInt ≤ n.toInt; omega) (SPR_s hCT hspr (by omega) (by omega) (by omega) ex_63 ex_64 ex_68 ex_67 ex_69 (z := x_66) (by omega) (a := x_62) (by omega) (w := vp_nar .short x_71) (by rw [v_nar_s (by omega)]; omega) ef_65 ef_72 (by omega)) hP hD hS (lv_sub hl [0, 1, 2, 3, 4, 5, 6, 7] rfl)
                              exact LOOP_163 _ 0 eL eB _ _ _ (ms_s _) (by decide) (g_eL) (g_eB) (by show 0 ≤ n.toInt; omega) (SPR_0) hP hD hS (lv_sub hl [0, 1, 2, 3, 4, 5, 6, 7] rfl)
                            · have tc_53 : k.toInt < n.toInt := v_nle c_53
                              refine lv_iload hx hb dX12_span_97 (lv_at hl 6 rfl) ?_
                              refine lv_iload hx hb dX12_span_99 (lv_at hl 0 rfl) ?_
                              refine lv_iload hx hb dX12_span_101 (lv_at hl 7 rfl) ?_
                              refine lv_imul hx hb dX12_span_103 ?_
                              refine lv_topi (fun x_74 ex_74 => ?_)
                              refine lv_iadd hx hb dX12_span_104 ?_
                              refine lv_topi (fun x_75 ex_75 => ?_)
                              have rv75_1 := v_rng x_74
                              refine lv_istore (lv' := [(8, .int x_75), (7, .int k), (6, .int x_50), (0, .ref oM), (1, .int cd), (2, .int fr), (3, .int n), (4, .int le), (5, .int sp)]) hx hb dX12_span_105 hl (by decide) rfl (fun ls hl => ?_)
                              refine lv_iload hx hb dX12_span_107 (lv_at hl 0 rfl) ?_
                              have hPc := hP.sub (ws' := []) [] rfl
                              have hDc := hD.sub (ws' := []) [] (by decide +kernel) rfl
                              have hFc := va_free (wc := []) hD hS hA [] rfl
                              refine va_calli (va_runS (As := [.int x_75]) (rest := []) ⟨hx, hb, hml, hown, hts⟩ (m_X12_isLetter l dC dI cI cS H.size x_75 ) (va_cwS 1 hts gX12_span_X12_isLetter rfl rfl rfl (by decide +kernel) ⟨Nat.le_of_ble_eq_true rfl, Nat.le_of_ble_eq_true rfl⟩) ⟨fun a U g mk q => by obtain ⟨q0, q1, qP, qK, qD⟩ := q; exact ⟨q0, q1, qP, va_K.moved (u := U) (U := U.calling g mk a) (Vm.Alike.refl U.vm) qK, qD⟩, fun U hU hW => ⟨rfl, by rw [hU], by rw [hU]; exact hPc, va_K.moved hW.alike hK, hDc.weaken (fun _ _ _ _ => trivial)⟩⟩ rfl rfl hl.1 rfl (lv_room (Nat.le_of_ble_eq_true rfl)) dX12_span_109 ⟨Nat.le_of_ble_eq_true rfl, Nat.le_of_ble_eq_true rfl⟩) hS (fun q _ h => hFc q h) hFc (fun r_76 u t H1 locs ht hvm hw hB hz1 hk1 hSn => ?_)
                              subst hw
                              obtain ⟨hP1, hD1, hf76_0, hf76_1⟩ := hB
                              rw [ht] at hP1
                              obtain ⟨hPn, hDn⟩ := va_join (wr := [(oM, .inr (12, [.ref mT, .int zt, .ref mS, .ref mX, .int zp, .int zf, .ref mL, .ref mB, .ref mD, .ref m1, .ref m2, .int zh, .ref mR, .int zr, .ref x1, .ref x2, .ref x3, .int zc, .ref mH, .int zy, .int za, .int zb, .int zs, .int zq, .int (-1), .int 0, .ref mY, .int zn, .ref mE, .int zm, .int zl, .ref mW, .int zk, .ref mO, .int zd, .ref y1, .ref y2, .ref y3, .ref y4, .ref mZ])), (mL, .inl (cI, 512, .inl eL)), (mB, .inl (cS, 131072, .inl eB)), (mD, .inl (cI, 2, .inl eD))]) (w1 := []) hP hD [] [0, 1, 2, 3] rfl rfl (by decide +kernel) (by decide +kernel) hk1 hFc hP1 hD1
                              clear hP hD hS hPc hDc hFc hk1 hz1 hvm ht hP1 hD1
                              generalize H1 = H at hPn hSn ⊢
                              have hP : va_P (dC, dI) vwCl [(oM, .inr (12, [.ref mT, .int zt, .ref mS, .ref mX, .int zp, .int zf, .ref mL, .ref mB, .ref mD, .ref m1, .ref m2, .int zh, .ref mR, .int zr, .ref x1, .ref x2, .ref x3, .int zc, .ref mH, .int zy, .int za, .int zb, .int zs, .int zq, .int (-1), .int 0, .ref mY, .int zn, .ref mE, .int zm, .int zl, .ref mW, .int zk, .ref mO, .int zd, .ref y1, .ref y2, .ref y3, .ref y4, .ref mZ])), (mL, .inl (cI, 512, .inl eL)), (mB, .inl (cS, 131072, .inl eB)), (mD, .inl (cI, 2, .inl eD))] H := hPn
                              have hD : va_D A [(oM, .inr (12, [.ref mT, .int zt, .ref mS, .ref mX, .int zp, .int zf, .ref mL, .ref mB, .ref mD, .ref m1, .ref m2, .int zh, .ref mR, .int zr, .ref x1, .ref x2, .ref x3, .int zc, .ref mH, .int zy, .int za, .int zb, .int zs, .int zq, .int (-1), .int 0, .ref mY, .int zn, .ref mE, .int zm, .int zl, .ref mW, .int zk, .ref mO, .int zd, .ref y1, .ref y2, .ref y3, .ref y4, .ref mZ])), (mL, .inl (cI, 512, .inl eL)), (mB, .inl (cS, 131072, .inl eB)), (mD, .inl (cI, 2, .inl eD))] := hDn
                              have hS := hSn
                              clear hPn hDn hSn
                              refine lv_if_eq (tgt := 152) hx hb dX12_span_112 (by decide) (fun c_77 => ?_) (fun c_77 => ?_)
                              · have tc_77 : r_76.toInt = 0 := v_eq c_77
                                refine lv_iconst (v := (-1)) hx hb dX12_span_152 (by decide) ?_
                                have hP9 := hP.sub (ws' := [(oM, .inr (12, [.ref mT, .int zt, .ref mS, .ref mX, .int zp, .int zf, .ref mL, .ref mB, .ref mD, .ref m1, .ref m2, .int zh, .ref mR, .int zr, .ref x1, .ref x2, .ref x3, .int zc, .ref mH, .int zy, .int za, .int zb, .int zs, .int zq, .int (-1), .int 0, .ref mY, .int zn, .ref mE, .int zm, .int zl, .ref mW, .int zk, .ref mO, .int zd, .ref y1, .ref y2, .ref y3, .ref y4, .ref mZ])), (mL, .inl (cI, 512, .inl eL)), (mB, .inl (cS, 131072, .inl eB)), (mD, .inl (cI, 2, .inl eD))]) [0, 1, 2, 3] rfl
                                have hD9 := hD.sub (ws' := [(oM, .inr (12, [.ref mT, .int zt, .ref mS, .ref mX, .int zp, .int zf, .ref mL, .ref mB, .ref mD, .ref m1, .ref m2, .int zh, .ref mR, .int zr, .ref x1, .ref x2, .ref x3, .int zc, .ref mH, .int zy, .int za, .int zb, .int zs, .int zq, .int (-1), .int 0, .ref mY, .int zn, .ref mE, .int zm, .int zl, .ref mW, .int zk, .ref mO, .int zd, .ref y1, .ref y2, .ref y3, .ref y4, .ref mZ])), (mL, .inl (cI, 512, .inl eL)), (mB, .inl (cS, 131072, .inl eB)), (mD, .inl (cI, 2, .inl eD))]) [0, 1, 2, 3] (by decide +kernel) rfl
                                rw [hQQ]
                                exact W.iret (v := (-1)) hx hb hr (fun t ht hW => ⟨⟨(-1), (-1), rfl, rfl, ⟨0, (-1), eL, eB, eD, zs, by rw [ht]; exact hP9, hD9, g_eL, g_eB, g_zs, by show zs.toInt ≤ zs.toInt + 1 ∧ zs.toInt ≤ zs.toInt; omega, Or.inr ⟨rfl, rfl, rfl, rfl, spanR_no (by omega) ex_74 ex_75 (by omega) (by omega) (fun z => by have z1 := z.1; unfold isLz at z1; omega)⟩, Or.inr ⟨fun ⟨t9, z1, z2, z3⟩ => (spanR_no (by omega) ex_74 ex_75 (by omega) (by omega) (fun z => by have z1 := z.1; unfold isLz at z1; omega)) t9 z1 z2 z3, rfl⟩⟩⟩, hS.F ht⟩) hS.2.2 dX12_span_153
                              · have tc_77 : ¬ r_76.toInt = 0 := v_ne c_77
                                have tl_x_75 : 0 ≤ x_75.toInt ∧ x_75.toInt ≤ 65535 := by omega
                                refine lv_aload_n hx hb dX12_span_115 rfl (lv_at hl 3 rfl) ?_
                                refine va_get (D := (dC, dI)) (ci := 12) (v := .ref mL) (C := RX12) (T := TX12) (N := 40) hx hb hts in_X12 hown hK hP 0 rfl rfl 6 (by decide) (hts (.fieldLink RX12 19 "TextMenderModel" "letterOf" "[I") (List.mem_of_getElem? (i := 3) rfl)) (fun _ h9 => h9) rfl dX12_span_116 ?_
                                refine lv_sipush (v := 256) hx hb dX12_span_119 (by decide) ?_
                                refine lv_iload hx hb dX12_span_122 (lv_at hl 2 rfl) ?_
                                refine lv_imul hx hb dX12_span_124 ?_
                                refine lv_topi (fun x_78 ex_78 => ?_)
                                have tx_78 : x_78.toInt = 256 * x_50.toInt := v_mul ex_78 (by show -2147483648 ≤ 256 * x_50.toInt; omega) (by show 256 * x_50.toInt < 2147483648; omega)
                                refine lv_iload_n hx hb dX12_span_125 rfl (lv_at hl 5 rfl) ?_
                                refine lv_iadd hx hb dX12_span_126 ?_
                                refine lv_topi (fun x_79 ex_79 => ?_)
                                have tx_79 : x_79.toInt = x_78.toInt + fr.toInt := v_add ex_79 (by show -2147483648 ≤ x_78.toInt + fr.toInt; omega) (by show x_78.toInt + fr.toInt < 2147483648; omega)
                                refine lv_iload hx hb dX12_span_127 (lv_at hl 1 rfl) ?_
                                refine lv_iadd hx hb dX12_span_129 ?_
                                refine lv_topi (fun x_80 ex_80 => ?_)
                                have tx_80 : x_80.toInt = x_79.toInt + k.toInt := v_add ex_80 (by show -2147483648 ≤ x_79.toInt + k.toInt; omega) (by show x_79.toInt + k.toInt < 2147483648; omega)
                                refine va_iald hx hb hK hP 1 0 rfl rfl (v_in (by omega)) dX12_span_130 ?_
                                refine lv_topi (fun x_81 ex_81 => ?_)
                                have tx_81 : -1 ≤ x_81.toInt ∧ x_81.toInt ≤ 65535 := rg_at g_eL ex_81
                                refine lv_iconst (v := (-1)) hx hb dX12_span_131 (by decide) ?_
                                refine lv_icmp_ne (tgt := 152) hx hb dX12_span_132 (by decide) (fun c_82 => ?_) (fun c_82 => ?_)
                                · have tc_82 : ¬ x_81.toInt = (-1) := v_ne c_82
                                  refine lv_iconst (v := (-1)) hx hb dX12_span_152 (by decide) ?_
                                  have hP9 := hP.sub (ws' := [(oM, .inr (12, [.ref mT, .int zt, .ref mS, .ref mX, .int zp, .int zf, .ref mL, .ref mB, .ref mD, .ref m1, .ref m2, .int zh, .ref mR, .int zr, .ref x1, .ref x2, .ref x3, .int zc, .ref mH, .int zy, .int za, .int zb, .int zs, .int zq, .int (-1), .int 0, .ref mY, .int zn, .ref mE, .int zm, .int zl, .ref mW, .int zk, .ref mO, .int zd, .ref y1, .ref y2, .ref y3, .ref y4, .ref mZ])), (mL, .inl (cI, 512, .inl eL)), (mB, .inl (cS, 131072, .inl eB)), (mD, .inl (cI, 2, .inl eD))]) [0, 1, 2, 3] rfl
                                  have hD9 := hD.sub (ws' := [(oM, .inr (12, [.ref mT, .int zt, .ref mS, .ref mX, .int zp, .int zf, .ref mL, .ref mB, .ref mD, .ref m1, .ref m2, .int zh, .ref mR, .int zr, .ref x1, .ref x2, .ref x3, .int zc, .ref mH, .int zy, .int za, .int zb, .int zs, .int zq, .int (-1), .int 0, .ref mY, .int zn, .ref mE, .int zm, .int zl, .ref mW, .int zk, .ref mO, .int zd, .ref y1, .ref y2, .ref y3, .ref y4, .ref mZ])), (mL, .inl (cI, 512, .inl eL)), (mB, .inl (cS, 131072, .inl eB)), (mD, .inl (cI, 2, .inl eD))]) [0, 1, 2, 3] (by decide +kernel) rfl
                                  rw [hQQ]
                                  exact W.iret (v := (-1)) hx hb hr (fun t ht hW => ⟨⟨(-1), (-1), rfl, rfl, ⟨0, (-1), eL, eB, eD, zs, by rw [ht]; exact hP9, hD9, g_eL, g_eB, g_zs, by show zs.toInt ≤ zs.toInt + 1 ∧ zs.toInt ≤ zs.toInt; omega, Or.inr ⟨rfl, rfl, rfl, rfl, spanR_no (by omega) ex_74 ex_75 (by omega) (by omega) (fun z => c_82 (by rw [ex_81, ix_eq (x := x_80) (N := 256 * (cd.toInt - 4).toNat + (fr.toInt + k.toInt).toNat) (by omega)]; exact z.2.1))⟩, Or.inr ⟨fun ⟨t9, z1, z2, z3⟩ => (spanR_no (by omega) ex_74 ex_75 (by omega) (by omega) (fun z => c_82 (by rw [ex_81, ix_eq (x := x_80) (N := 256 * (cd.toInt - 4).toNat + (fr.toInt + k.toInt).toNat) (by omega)]; exact z.2.1))) t9 z1 z2 z3, rfl⟩⟩⟩, hS.F ht⟩) hS.2.2 dX12_span_153
                                · have tc_82 : x_81.toInt = (-1) := v_eq c_82
                                  refine lv_aload_n hx hb dX12_span_135 rfl (lv_at hl 3 rfl) ?_
                                  refine va_get (D := (dC, dI)) (ci := 12) (v := .ref mB) (C := RX12) (T := TX12) (N := 40) hx hb hts in_X12 hown hK hP 0 rfl rfl 7 (by decide) (hts (.fieldLink RX12 23 "TextMenderModel" "byteOfLetter" "[S") (List.mem_of_getElem? (i := 4) rfl)) (fun _ h9 => h9) rfl dX12_span_136 ?_
                                  refine lv_ldc hx hb hown (hts (.constant RX12 88 (65536)) (List.mem_of_getElem? (i := 5) rfl)) dX12_span_139 ?_
                                  refine lv_iload hx hb dX12_span_141 (lv_at hl 2 rfl) ?_
                                  refine lv_imul hx hb dX12_span_143 ?_
                                  refine lv_topi (fun x_83 ex_83 => ?_)
                                  have tx_83 : x_83.toInt = 65536 * x_50.toInt := v_mul ex_83 (by show -2147483648 ≤ 65536 * x_50.toInt; omega) (by show 65536 * x_50.toInt < 2147483648; omega)
                                  refine lv_iload hx hb dX12_span_144 (lv_at hl 0 rfl) ?_
                                  refine lv_iadd hx hb dX12_span_146 ?_
                                  refine lv_topi (fun x_84 ex_84 => ?_)
                                  have tx_84 : x_84.toInt = x_83.toInt + x_75.toInt := v_add ex_84 (by show -2147483648 ≤ x_83.toInt + x_75.toInt; omega) (by show x_83.toInt + x_75.toInt < 2147483648; omega)
                                  refine va_sald hx hb hK hP 2 1 rfl rfl (v_in (by omega)) dX12_span_147 ?_
                                  refine lv_topi (fun x_85 ex_85 => ?_)
                                  have tx_85 : -1 ≤ x_85.toInt ∧ x_85.toInt ≤ 255 := rg_at g_eB ex_85
                                  refine lv_iconst (v := (-1)) hx hb dX12_span_148 (by decide) ?_
                                  refine lv_icmp_eq (tgt := 154) hx hb dX12_span_149 (by decide) (fun c_86 => ?_) (fun c_86 => ?_)
                                  · have tc_86 : x_85.toInt = (-1) := v_eq c_86
                                    obtain ⟨x_87, ex_87⟩ : ∃ y : Int32, y = k + 1 := ⟨_, rfl⟩
                                    have tx_87 : x_87.toInt = k.toInt + 1 := v_add ex_87 (by show -2147483648 ≤ k.toInt + 1; omega) (by show k.toInt + 1 < 2147483648; omega)
                                    refine lv_iinc (v := x_87) (lv' := [(7, .int x_87), (8, .int x_75), (6, .int x_50), (0, .ref oM), (1, .int cd), (2, .int fr), (3, .int n), (4, .int le), (5, .int sp)]) hx hb dX12_span_154 hl (k := 1) rfl (by rw [ex_87]; rfl) (by decide) rfl (fun ls hl => ?_)
                                    refine lv_goto (tgt := 91) hx hb dX12_span_157 (by decide) ?_
                                    exact ih_91 x_87 _ _ _ (ms_lt hm_91 (by show ((256 - x_87.toInt : Int)) < 256 - k.toInt; omega) (by show (0 : Int) < 256 - k.toInt; omega)) (by show 0 ≤ x_87.toInt ∧ x_87.toInt ≤ 256; omega) (CTk_s hct ex_74 ex_75 (by omega) (by unfold isLz; omega) (by unfold pL; rw [← ix_eq (x := x_80) (N := 256 * (cd.toInt - 4).toNat + (fr.toInt + k.toInt).toNat) (by omega), ← ex_81]; exact c_82) (by unfold pB; have c9 := v_clamp (x := x_75) (by omega); rw [← ix_eq (x := x_84) (N := 65536 * (cd.toInt - 4).toNat + x_75.toNatClampNeg) (by omega), ← ex_85]; exact c_86)) hP hD hS (lv_sub hl [0, 2, 3, 4, 5, 6, 7, 8] rfl)
                                  · have tc_86 : ¬ x_85.toInt = (-1) := v_ne c_86
                                    refine lv_iconst (v := (-1)) hx hb dX12_span_152 (by decide) ?_
                                    have hP9 := hP.sub (ws' := [(oM, .inr (12, [.ref mT, .int zt, .ref mS, .ref mX, .int zp, .int zf, .ref mL, .ref mB, .ref mD, .ref m1, .ref m2, .int zh, .ref mR, .int zr, .ref x1, .ref x2, .ref x3, .int zc, .ref mH, .int zy, .int za, .int zb, .int zs, .int zq, .int (-1), .int 0, .ref mY, .int zn, .ref mE, .int zm, .int zl, .ref mW, .int zk, .ref mO, .int zd, .ref y1, .ref y2, .ref y3, .ref y4, .ref mZ])), (mL, .inl (cI, 512, .inl eL)), (mB, .inl (cS, 131072, .inl eB)), (mD, .inl (cI, 2, .inl eD))]) [0, 1, 2, 3] rfl
                                    have hD9 := hD.sub (ws' := [(oM, .inr (12, [.ref mT, .int zt, .ref mS, .ref mX, .int zp, .int zf, .ref mL, .ref mB, .ref mD, .ref m1, .ref m2, .int zh, .ref mR, .int zr, .ref x1, .ref x2, .ref x3, .int zc, .ref mH, .int zy, .int za, .int zb, .int zs, .int zq, .int (-1), .int 0, .ref mY, .int zn, .ref mE, .int zm, .int zl, .ref mW, .int zk, .ref mO, .int zd, .ref y1, .ref y2, .ref y3, .ref y4, .ref mZ])), (mL, .inl (cI, 512, .inl eL)), (mB, .inl (cS, 131072, .inl eB)), (mD, .inl (cI, 2, .inl eD))]) [0, 1, 2, 3] (by decide +kernel) rfl
                                    rw [hQQ]
                                    exact W.iret (v := (-1)) hx hb hr (fun t ht hW => ⟨⟨(-1), (-1), rfl, rfl, ⟨0, (-1), eL, eB, eD, zs, by rw [ht]; exact hP9, hD9, g_eL, g_eB, g_zs, by show zs.toInt ≤ zs.toInt + 1 ∧ zs.toInt ≤ zs.toInt; omega, Or.inr ⟨rfl, rfl, rfl, rfl, spanR_no (by omega) ex_74 ex_75 (by omega) (by omega) (fun z => c_86 (by have c9 := v_clamp (x := x_75) (by omega); rw [ex_85, ix_eq (x := x_84) (N := 65536 * (cd.toInt - 4).toNat + x_75.toNatClampNeg) (by omega)]; exact z.2.2))⟩, Or.inr ⟨fun ⟨t9, z1, z2, z3⟩ => (spanR_no (by omega) ex_74 ex_75 (by omega) (by omega) (fun z => c_86 (by have c9 := v_clamp (x := x_75) (by omega); rw [ex_85, ix_eq (x := x_84) (N := 65536 * (cd.toInt - 4).toNat + x_75.toNatClampNeg) (by omega)]; exact z.2.2))) t9 z1 z2 z3, rfl⟩⟩⟩, hS.F ht⟩) hS.2.2 dX12_span_153
                        exact LOOP_91 _ 0 _ _ _ (ms_s _) (by decide) (CTk_0 (by decide)) hP hD hS (lv_sub hl [0, 1, 2, 3, 4, 5, 6, 7] rfl)
                      · have tc_52 : r_51.toInt = 0 := v_eq c_52
                        refine lv_iconst (v := (-1)) hx hb dX12_span_86 (by decide) ?_
                        have hP9 := hP.sub (ws' := [(oM, .inr (12, [.ref mT, .int zt, .ref mS, .ref mX, .int zp, .int zf, .ref mL, .ref mB, .ref mD, .ref m1, .ref m2, .int zh, .ref mR, .int zr, .ref x1, .ref x2, .ref x3, .int zc, .ref mH, .int zy, .int za, .int zb, .int zs, .int zq, .int (-1), .int 0, .ref mY, .int zn, .ref mE, .int zm, .int zl, .ref mW, .int zk, .ref mO, .int zd, .ref y1, .ref y2, .ref y3, .ref y4, .ref mZ])), (mL, .inl (cI, 512, .inl eL)), (mB, .inl (cS, 131072, .inl eB)), (mD, .inl (cI, 2, .inl eD))]) [0, 1, 2, 3] rfl
                        have hD9 := hD.sub (ws' := [(oM, .inr (12, [.ref mT, .int zt, .ref mS, .ref mX, .int zp, .int zf, .ref mL, .ref mB, .ref mD, .ref m1, .ref m2, .int zh, .ref mR, .int zr, .ref x1, .ref x2, .ref x3, .int zc, .ref mH, .int zy, .int za, .int zb, .int zs, .int zq, .int (-1), .int 0, .ref mY, .int zn, .ref mE, .int zm, .int zl, .ref mW, .int zk, .ref mO, .int zd, .ref y1, .ref y2, .ref y3, .ref y4, .ref mZ])), (mL, .inl (cI, 512, .inl eL)), (mB, .inl (cS, 131072, .inl eB)), (mD, .inl (cI, 2, .inl eD))]) [0, 1, 2, 3] (by decide +kernel) rfl
                        rw [hQQ]
                        exact W.iret (v := (-1)) hx hb hr (fun t ht hW => ⟨⟨(-1), (-1), rfl, rfl, ⟨0, (-1), eL, eB, eD, zs, by rw [ht]; exact hP9, hD9, g_eL, g_eB, g_zs, by show zs.toInt ≤ zs.toInt + 1 ∧ zs.toInt ≤ zs.toInt; omega, Or.inr ⟨rfl, rfl, rfl, rfl, fun t h1 h2 c => by have c1 := c.1; unfold isLz at c1; omega⟩, Or.inr ⟨fun ⟨t9, z1, z2, z3⟩ => (fun t h1 h2 c => by have c1 := c.1; unfold isLz at c1; omega) t9 z1 z2 z3, rfl⟩⟩⟩, hS.F ht⟩) hS.2.2 dX12_span_87
                    · have tc_49 : sp.toInt = 0 := v_eq c_49
                      refine lv_iconst (v := (-1)) hx hb dX12_span_71 (by decide) ?_
                      have hP9 := hP.sub (ws' := [(oM, .inr (12, [.ref mT, .int zt, .ref mS, .ref mX, .int zp, .int zf, .ref mL, .ref mB, .ref mD, .ref m1, .ref m2, .int zh, .ref mR, .int zr, .ref x1, .ref x2, .ref x3, .int zc, .ref mH, .int zy, .int za, .int zb, .int zs, .int zq, .int (-1), .int 0, .ref mY, .int zn, .ref mE, .int zm, .int zl, .ref mW, .int zk, .ref mO, .int zd, .ref y1, .ref y2, .ref y3, .ref y4, .ref mZ])), (mL, .inl (cI, 512, .inl eL)), (mB, .inl (cS, 131072, .inl eB)), (mD, .inl (cI, 2, .inl eD))]) [0, 1, 2, 3] rfl
                      have hD9 := hD.sub (ws' := [(oM, .inr (12, [.ref mT, .int zt, .ref mS, .ref mX, .int zp, .int zf, .ref mL, .ref mB, .ref mD, .ref m1, .ref m2, .int zh, .ref mR, .int zr, .ref x1, .ref x2, .ref x3, .int zc, .ref mH, .int zy, .int za, .int zb, .int zs, .int zq, .int (-1), .int 0, .ref mY, .int zn, .ref mE, .int zm, .int zl, .ref mW, .int zk, .ref mO, .int zd, .ref y1, .ref y2, .ref y3, .ref y4, .ref mZ])), (mL, .inl (cI, 512, .inl eL)), (mB, .inl (cS, 131072, .inl eB)), (mD, .inl (cI, 2, .inl eD))]) [0, 1, 2, 3] (by decide +kernel) rfl
                      rw [hQQ]
                      exact W.iret (v := (-1)) hx hb hr (fun t ht hW => ⟨⟨(-1), (-1), rfl, rfl, ⟨0, (-1), eL, eB, eD, zs, by rw [ht]; exact hP9, hD9, g_eL, g_eB, g_zs, by show zs.toInt ≤ zs.toInt + 1 ∧ zs.toInt ≤ zs.toInt; omega, Or.inr ⟨rfl, rfl, rfl, rfl, fun t h1 h2 c => by have c1 := c.1; unfold isLz at c1; omega⟩, Or.inr ⟨fun ⟨t9, z1, z2, z3⟩ => (fun t h1 h2 c => by have c1 := c.1; unfold isLz at c1; omega) t9 z1 z2 z3, rfl⟩⟩⟩, hS.F ht⟩) hS.2.2 dX12_span_72

set_option maxHeartbeats 40000000 in
set_option maxRecDepth 100000 in
theorem f_X12_blank (l : Launch) (dC : Nat → ClassId) (dI : Nat → Nat → Nat) (cI cS : ClassId) (sz : Nat) (oM : Nat) (mT : Nat) (mS : Nat) (mX : Nat) (mL : Nat) (mB : Nat) (mD : Nat) (m1 : Nat) (m2 : Nat) (mR : Nat) (x1 : Nat) (x2 : Nat) (x3 : Nat) (mH : Nat) (mY : Nat) (mE : Nat) (mW : Nat) (mO : Nat) (y1 : Nat) (y2 : Nat) (y3 : Nat) (y4 : Nat) (mZ : Nat) (zt : Int32) (zp : Int32) (zf : Int32) (zh : Int32) (zr : Int32) (zc : Int32) (zy : Int32) (za : Int32) (zb : Int32) (zs : Int32) (zq : Int32) (zw : Int32) (ze : Int32) (zn : Int32) (zm : Int32) (zl : Int32) (zk : Int32) (zd : Int32) (eL : Nat → Int32) (eB : Nat → Int32) (eD : Nat → Int32) (cd : Int32) (g_zt : 0 ≤ zt.toInt ∧ zt.toInt ≤ 900) (g_zp : 0 ≤ zp.toInt ∧ zp.toInt ≤ 20) (g_zf : 0 ≤ zf.toInt ∧ zf.toInt ≤ 19) (g_zh : 0 ≤ zh.toInt ∧ zh.toInt ≤ 6) (g_zr : 0 ≤ zr.toInt ∧ zr.toInt ≤ 258) (g_zc : 0 ≤ zc.toInt ∧ zc.toInt ≤ 300) (g_zy : 0 ≤ zy.toInt ∧ zy.toInt ≤ 65536) (g_za : 0 ≤ za.toInt ∧ za.toInt ≤ 5) (g_zb : 0 ≤ zb.toInt ∧ zb.toInt ≤ 5) (g_zs : 0 ≤ zs.toInt ∧ zs.toInt ≤ 2000000) (g_zq : -1 ≤ zq.toInt ∧ zq.toInt ≤ 2000000) (g_zn : 0 ≤ zn.toInt ∧ zn.toInt ≤ 2600) (g_zm : 0 ≤ zm.toInt ∧ zm.toInt ≤ 2600) (g_zk : 0 ≤ zk.toInt ∧ zk.toInt ≤ 300) (g_eL : rg (-1) 65535 eL) (g_eB : rg (-1) 255 eB) (hzs : zs.toInt ≤ 1000000) : Met l yX12_blank wsX12_blank ({ frames := 0, cells := 0, slots := 0, locals := 0 } : Room) (va_Pc [.ref oM, .int cd] (fun U => U.heap.size = sz ∧ va_P (dC, dI) vwCl [(oM, .inr (12, [.ref mT, .int zt, .ref mS, .ref mX, .int zp, .int zf, .ref mL, .ref mB, .ref mD, .ref m1, .ref m2, .int zh, .ref mR, .int zr, .ref x1, .ref x2, .ref x3, .int zc, .ref mH, .int zy, .int za, .int zb, .int zs, .int zq, .int zw, .int ze, .ref mY, .int zn, .ref mE, .int zm, .int zl, .ref mW, .int zk, .ref mO, .int zd, .ref y1, .ref y2, .ref y3, .ref y4, .ref mZ])), (mL, .inl (cI, 512, .inl eL)), (mB, .inl (cS, 131072, .inl eB)), (mD, .inl (cI, 2, .inl eD))] U.heap ∧ va_K (dC, dI) vwCl [(cI, .int), (cS, .short)] U ∧ va_D (fun _ => True) [(oM, .inr (12, [.ref mT, .int zt, .ref mS, .ref mX, .int zp, .int zf, .ref mL, .ref mB, .ref mD, .ref m1, .ref m2, .int zh, .ref mR, .int zr, .ref x1, .ref x2, .ref x3, .int zc, .ref mH, .int zy, .int za, .int zb, .int zs, .int zq, .int zw, .int ze, .ref mY, .int zn, .ref mE, .int zm, .int zl, .ref mW, .int zk, .ref mO, .int zd, .ref y1, .ref y2, .ref y3, .ref y4, .ref mZ])), (mL, .inl (cI, 512, .inl eL)), (mB, .inl (cS, 131072, .inl eB)), (mD, .inl (cI, 2, .inl eD))])) (va_Qi (fun (r : Int32) (u : Int32) => r = u) (fun (r : Int32) t => ∃ (ze' : Int32) (eL' : Nat → Int32) (eB' : Nat → Int32) (eD' : Nat → Int32) (zs' : Int32), va_P (dC, dI) vwCl [(oM, .inr (12, [.ref mT, .int zt, .ref mS, .ref mX, .int zp, .int zf, .ref mL, .ref mB, .ref mD, .ref m1, .ref m2, .int zh, .ref mR, .int zr, .ref x1, .ref x2, .ref x3, .int zc, .ref mH, .int zy, .int za, .int zb, .int zs', .int zq, .int zw, .int ze', .ref mY, .int zn, .ref mE, .int zm, .int zl, .ref mW, .int zk, .ref mO, .int zd, .ref y1, .ref y2, .ref y3, .ref y4, .ref mZ])), (mL, .inl (cI, 512, .inl eL')), (mB, .inl (cS, 131072, .inl eB')), (mD, .inl (cI, 2, .inl eD'))] t.heap ∧ va_D (va_A [(oM, .inr (12, [.ref mT, .int zt, .ref mS, .ref mX, .int zp, .int zf, .ref mL, .ref mB, .ref mD, .ref m1, .ref m2, .int zh, .ref mR, .int zr, .ref x1, .ref x2, .ref x3, .int zc, .ref mH, .int zy, .int za, .int zb, .int zs, .int zq, .int zw, .int ze, .ref mY, .int zn, .ref mE, .int zm, .int zl, .ref mW, .int zk, .ref mO, .int zd, .ref y1, .ref y2, .ref y3, .ref y4, .ref mZ])), (mL, .inl (cI, 512, .inl eL)), (mB, .inl (cS, 131072, .inl eB)), (mD, .inl (cI, 2, .inl eD))] sz) [(oM, .inr (12, [.ref mT, .int zt, .ref mS, .ref mX, .int zp, .int zf, .ref mL, .ref mB, .ref mD, .ref m1, .ref m2, .int zh, .ref mR, .int zr, .ref x1, .ref x2, .ref x3, .int zc, .ref mH, .int zy, .int za, .int zb, .int zs', .int zq, .int zw, .int ze', .ref mY, .int zn, .ref mE, .int zm, .int zl, .ref mW, .int zk, .ref mO, .int zd, .ref y1, .ref y2, .ref y3, .ref y4, .ref mZ])), (mL, .inl (cI, 512, .inl eL')), (mB, .inl (cS, 131072, .inl eB')), (mD, .inl (cI, 2, .inl eD'))] ∧ (rg (-1) 65535 eL') ∧ (rg (-1) 255 eB') ∧ (0 ≤ zs'.toInt ∧ zs'.toInt ≤ 2000000) ∧ ((r.toInt = 1 ∧ (cd.toInt = 4 ∨ cd.toInt = 5)) ∨ (r.toInt = 0 ∧ ¬ cd.toInt = 4 ∧ ¬ cd.toInt = 5)) ∧ (zs'.toInt ≤ zs.toInt + 1 ∧ zs.toInt ≤ zs'.toInt) ∧ (F_blankR cd eL eL' eB eB' eD eD') ∧ (F_zs (0) r zs zs')) (va_A [(oM, .inr (12, [.ref mT, .int zt, .ref mS, .ref mX, .int zp, .int zf, .ref mL, .ref mB, .ref mD, .ref m1, .ref m2, .int zh, .ref mR, .int zr, .ref x1, .ref x2, .ref x3, .int zc, .ref mH, .int zy, .int za, .int zb, .int zs, .int zq, .int zw, .int ze, .ref mY, .int zn, .ref mE, .int zm, .int zl, .ref mW, .int zk, .ref mO, .int zd, .ref y1, .ref y2, .ref y3, .ref y4, .ref mZ])), (mL, .inl (cI, 512, .inl eL)), (mB, .inl (cS, 131072, .inl eB)), (mD, .inl (cI, 2, .inl eD))] sz)) 0 0 (va_A [(oM, .inr (12, [.ref mT, .int zt, .ref mS, .ref mX, .int zp, .int zf, .ref mL, .ref mB, .ref mD, .ref m1, .ref m2, .int zh, .ref mR, .int zr, .ref x1, .ref x2, .ref x3, .int zc, .ref mH, .int zy, .int za, .int zb, .int zs, .int zq, .int zw, .int ze, .ref mY, .int zn, .ref mE, .int zm, .int zl, .ref mW, .int zk, .ref mO, .int zd, .ref y1, .ref y2, .ref y3, .ref y4, .ref mZ])), (mL, .inl (cI, 512, .inl eL)), (mB, .inl (cS, 131072, .inl eB)), (mD, .inl (cI, 2, .inl eD))] sz) := by
  refine Met.ofW (cc := cX12_blank) (maxL := 4) (ret := (some .boolean)) (by decide) rfl ?_
  intro p e s m args below meth c s₁ B hml hv
  obtain ⟨rfl, hsz, hP, hK, hD0⟩ := hv
  have hx := B.exec
  have hb := B.bytes
  have hr := B.returns
  have hts := atoms_spec (ws := wsX12_blank) B.pre
  have hown : s.vm.findClass RX12 = some m.cls := findClass_of_methodNamed B.named
  have hlocks := B.notSynchronized
  have in_X12 : ∀ w ∈ wsX120, w ∈ wsX12_blank := fun _ h => List.mem_cons_of_mem _ (List.mem_append_right _ (h))
  subst hsz
  have hD := hD0.self (sz := s.heap.size)
  generalize hAe : va_A [(oM, .inr (12, [.ref mT, .int zt, .ref mS, .ref mX, .int zp, .int zf, .ref mL, .ref mB, .ref mD, .ref m1, .ref m2, .int zh, .ref mR, .int zr, .ref x1, .ref x2, .ref x3, .int zc, .ref mH, .int zy, .int za, .int zb, .int zs, .int zq, .int zw, .int ze, .ref mY, .int zn, .ref mE, .int zm, .int zl, .ref mW, .int zk, .ref mO, .int zd, .ref y1, .ref y2, .ref y3, .ref y4, .ref mZ])), (mL, .inl (cI, 512, .inl eL)), (mB, .inl (cS, 131072, .inl eB)), (mD, .inl (cI, 2, .inl eD))] s.heap.size = A at hD ⊢
  have hA : ∀ q : Nat, s.heap.size ≤ q → A q := fun q h => by rw [← hAe]; exact Or.inr h
  have hS : va_S A s.heap s.heap [] := va_S.rf
  have hP : va_P (dC, dI) vwCl [(oM, .inr (12, [.ref mT, .int zt, .ref mS, .ref mX, .int zp, .int zf, .ref mL, .ref mB, .ref mD, .ref m1, .ref m2, .int zh, .ref mR, .int zr, .ref x1, .ref x2, .ref x3, .int zc, .ref mH, .int zy, .int za, .int zb, .int zs, .int zq, .int zw, .int ze, .ref mY, .int zn, .ref mE, .int zm, .int zl, .ref mW, .int zk, .ref mO, .int zd, .ref y1, .ref y2, .ref y3, .ref y4, .ref mZ])), (mL, .inl (cI, 512, .inl eL)), (mB, .inl (cS, 131072, .inl eB)), (mD, .inl (cI, 2, .inl eD))] s.heap := hP
  have hl := lv_entry ([.ref oM, .int cd]) (n := 4) (Nat.le_of_ble_eq_true rfl)
  rw [lg_entry_eq]
  generalize (lg_sl ([.ref oM, .int cd]) ++ List.replicate (4 - (lg_sl ([.ref oM, .int cd])).length) Slot.unset).toArray = ls at hl ⊢
  have hl : lv_has ls 4 [(0, .ref oM), (1, .int cd)] := hl
  obtain ⟨QQ, hQQ⟩ : ∃ QQ : Array Value → State → Outcome → State → Prop, QQ = va_Qi (fun (r : Int32) (u : Int32) => r = u) (fun (r : Int32) t => ∃ (ze' : Int32) (eL' : Nat → Int32) (eB' : Nat → Int32) (eD' : Nat → Int32) (zs' : Int32), va_P (dC, dI) vwCl [(oM, .inr (12, [.ref mT, .int zt, .ref mS, .ref mX, .int zp, .int zf, .ref mL, .ref mB, .ref mD, .ref m1, .ref m2, .int zh, .ref mR, .int zr, .ref x1, .ref x2, .ref x3, .int zc, .ref mH, .int zy, .int za, .int zb, .int zs', .int zq, .int zw, .int ze', .ref mY, .int zn, .ref mE, .int zm, .int zl, .ref mW, .int zk, .ref mO, .int zd, .ref y1, .ref y2, .ref y3, .ref y4, .ref mZ])), (mL, .inl (cI, 512, .inl eL')), (mB, .inl (cS, 131072, .inl eB')), (mD, .inl (cI, 2, .inl eD'))] t.heap ∧ va_D A [(oM, .inr (12, [.ref mT, .int zt, .ref mS, .ref mX, .int zp, .int zf, .ref mL, .ref mB, .ref mD, .ref m1, .ref m2, .int zh, .ref mR, .int zr, .ref x1, .ref x2, .ref x3, .int zc, .ref mH, .int zy, .int za, .int zb, .int zs', .int zq, .int zw, .int ze', .ref mY, .int zn, .ref mE, .int zm, .int zl, .ref mW, .int zk, .ref mO, .int zd, .ref y1, .ref y2, .ref y3, .ref y4, .ref mZ])), (mL, .inl (cI, 512, .inl eL')), (mB, .inl (cS, 131072, .inl eB')), (mD, .inl (cI, 2, .inl eD'))] ∧ (rg (-1) 65535 eL') ∧ (rg (-1) 255 eB') ∧ (0 ≤ zs'.toInt ∧ zs'.toInt ≤ 2000000) ∧ ((r.toInt = 1 ∧ (cd.toInt = 4 ∨ cd.toInt = 5)) ∨ (r.toInt = 0 ∧ ¬ cd.toInt = 4 ∧ ¬ cd.toInt = 5)) ∧ (zs'.toInt ≤ zs.toInt + 1 ∧ zs.toInt ≤ zs'.toInt) ∧ (F_blankR cd eL eL' eB eB' eD eD') ∧ (F_zs (0) r zs zs')) A := ⟨_, rfl⟩
  rw [← hQQ]
  refine lv_aload_n hx hb dX12_blank_0 rfl (lv_at hl 0 rfl) ?_
  refine lv_iconst (v := 0) hx hb dX12_blank_1 (by decide) ?_
  refine va_put (D := (dC, dI)) (ci := 12) (v := .int 0) (ty := .int) (C := RX12) (T := TX12) (N := 40) hx hb hts in_X12 tyX12 tyX12_ok nmX12 hown hK hP hD hS 0 rfl rfl 25 (by decide) (hts (.fieldLink RX12 85 "TextMenderModel" "thrown" "I") (List.mem_of_getElem? (i := 1) rfl)) (fun _ h9 => h9) rfl (by decide +kernel) rfl rfl (Nat.le_of_ble_eq_true rfl) dX12_blank_2 (fun H locs hPn hDn hSn => ?_)
  clear hP hD hS
  have hP : va_P (dC, dI) vwCl [(oM, .inr (12, [.ref mT, .int zt, .ref mS, .ref mX, .int zp, .int zf, .ref mL, .ref mB, .ref mD, .ref m1, .ref m2, .int zh, .ref mR, .int zr, .ref x1, .ref x2, .ref x3, .int zc, .ref mH, .int zy, .int za, .int zb, .int zs, .int zq, .int zw, .int 0, .ref mY, .int zn, .ref mE, .int zm, .int zl, .ref mW, .int zk, .ref mO, .int zd, .ref y1, .ref y2, .ref y3, .ref y4, .ref mZ])), (mL, .inl (cI, 512, .inl eL)), (mB, .inl (cS, 131072, .inl eB)), (mD, .inl (cI, 2, .inl eD))] H := hPn
  have hD : va_D A [(oM, .inr (12, [.ref mT, .int zt, .ref mS, .ref mX, .int zp, .int zf, .ref mL, .ref mB, .ref mD, .ref m1, .ref m2, .int zh, .ref mR, .int zr, .ref x1, .ref x2, .ref x3, .int zc, .ref mH, .int zy, .int za, .int zb, .int zs, .int zq, .int zw, .int 0, .ref mY, .int zn, .ref mE, .int zm, .int zl, .ref mW, .int zk, .ref mO, .int zd, .ref y1, .ref y2, .ref y3, .ref y4, .ref mZ])), (mL, .inl (cI, 512, .inl eL)), (mB, .inl (cS, 131072, .inl eB)), (mD, .inl (cI, 2, .inl eD))] := hDn
  have hS := hSn
  clear hPn hDn hSn
  refine lv_iload_n hx hb dX12_blank_5 rfl (lv_at hl 1 rfl) ?_
  refine lv_iconst (v := 4) hx hb dX12_blank_6 (by decide) ?_
  refine lv_icmp_lt (tgt := 15) hx hb dX12_blank_7 (by decide) (fun c_1 => ?_) (fun c_1 => ?_)
  · have tc_1 : cd.toInt < 4 := v_lt c_1
    refine lv_iconst (v := 0) hx hb dX12_blank_15 (by decide) ?_
    have hP9 := hP.sub (ws' := [(oM, .inr (12, [.ref mT, .int zt, .ref mS, .ref mX, .int zp, .int zf, .ref mL, .ref mB, .ref mD, .ref m1, .ref m2, .int zh, .ref mR, .int zr, .ref x1, .ref x2, .ref x3, .int zc, .ref mH, .int zy, .int za, .int zb, .int zs, .int zq, .int zw, .int 0, .ref mY, .int zn, .ref mE, .int zm, .int zl, .ref mW, .int zk, .ref mO, .int zd, .ref y1, .ref y2, .ref y3, .ref y4, .ref mZ])), (mL, .inl (cI, 512, .inl eL)), (mB, .inl (cS, 131072, .inl eB)), (mD, .inl (cI, 2, .inl eD))]) [0, 1, 2, 3] rfl
    have hD9 := hD.sub (ws' := [(oM, .inr (12, [.ref mT, .int zt, .ref mS, .ref mX, .int zp, .int zf, .ref mL, .ref mB, .ref mD, .ref m1, .ref m2, .int zh, .ref mR, .int zr, .ref x1, .ref x2, .ref x3, .int zc, .ref mH, .int zy, .int za, .int zb, .int zs, .int zq, .int zw, .int 0, .ref mY, .int zn, .ref mE, .int zm, .int zl, .ref mW, .int zk, .ref mO, .int zd, .ref y1, .ref y2, .ref y3, .ref y4, .ref mZ])), (mL, .inl (cI, 512, .inl eL)), (mB, .inl (cS, 131072, .inl eB)), (mD, .inl (cI, 2, .inl eD))]) [0, 1, 2, 3] (by decide +kernel) rfl
    rw [hQQ]
    exact W.zret (v := 0) (ty := .boolean) hx hb hr (rfl) (fun t ht hW => ⟨⟨0, 0, rfl, rfl, ⟨0, eL, eB, eD, zs, by rw [ht]; exact hP9, hD9, g_eL, g_eB, g_zs, by show (0 = 1 ∧ (cd.toInt = 4 ∨ cd.toInt = 5)) ∨ (0 = 0 ∧ ¬ cd.toInt = 4 ∧ ¬ cd.toInt = 5); omega, by show zs.toInt ≤ zs.toInt + 1 ∧ zs.toInt ≤ zs.toInt; omega, Or.inr ⟨by omega, by omega, rfl, rfl, rfl⟩, by first | exact Or.inl ⟨by first | rfl | omega, rfl⟩ | exact Or.inr ⟨by first | decide | omega, by omega⟩⟩⟩, hS.F ht⟩) hS.2.2 dX12_blank_16
  · have tc_1 : 4 ≤ cd.toInt := v_nlt c_1
    refine lv_iload_n hx hb dX12_blank_10 rfl (lv_at hl 1 rfl) ?_
    refine lv_iconst (v := 5) hx hb dX12_blank_11 (by decide) ?_
    refine lv_icmp_le (tgt := 17) hx hb dX12_blank_12 (by decide) (fun c_2 => ?_) (fun c_2 => ?_)
    · have tc_2 : cd.toInt ≤ 5 := v_le c_2
      refine lv_iload_n hx hb dX12_blank_17 rfl (lv_at hl 1 rfl) ?_
      refine lv_iconst (v := 4) hx hb dX12_blank_18 (by decide) ?_
      refine lv_isub hx hb dX12_blank_19 ?_
      refine lv_topi (fun x_3 ex_3 => ?_)
      have tx_3 : x_3.toInt = cd.toInt - 4 := v_sub ex_3 (by show -2147483648 ≤ cd.toInt - 4; omega) (by show cd.toInt - 4 < 2147483648; omega)
      refine lv_istore_n (lv' := [(2, .int x_3), (0, .ref oM), (1, .int cd)]) hx hb dX12_blank_20 rfl hl (by decide) rfl (fun ls hl => ?_)
      refine lv_iconst (v := 0) hx hb dX12_blank_21 (by decide) ?_
      refine lv_istore_n (lv' := [(3, .int 0), (2, .int x_3), (0, .ref oM), (1, .int cd)]) hx hb dX12_blank_22 rfl hl (by decide) rfl (fun ls hl => ?_)
      have LOOP_23 : ∀ (k_23 : Nat) (k : Int32) (eLa : Nat → Int32) (H : Heap) (locs : List Loc) (ls : Array Slot), MSd (256 - k.toInt : Int) k_23 → (0 ≤ k.toInt ∧ k.toInt ≤ 256) → (rg (-1) 65535 eLa) → (FB (256 * x_3.toInt) k.toInt eL eLa) → va_P (dC, dI) vwCl [(oM, .inr (12, [.ref mT, .int zt, .ref mS, .ref mX, .int zp, .int zf, .ref mL, .ref mB, .ref mD, .ref m1, .ref m2, .int zh, .ref mR, .int zr, .ref x1, .ref x2, .ref x3, .int zc, .ref mH, .int zy, .int za, .int zb, .int zs, .int zq, .int zw, .int 0, .ref mY, .int zn, .ref mE, .int zm, .int zl, .ref mW, .int zk, .ref mO, .int zd, .ref y1, .ref y2, .ref y3, .ref y4, .ref mZ])), (mL, .inl (cI, 512, .inl eLa)), (mB, .inl (cS, 131072, .inl eB)), (mD, .inl (cI, 2, .inl eD))] H → va_D A [(oM, .inr (12, [.ref mT, .int zt, .ref mS, .ref mX, .int zp, .int zf, .ref mL, .ref mB, .ref mD, .ref m1, .ref m2, .int zh, .ref mR, .int zr, .ref x1, .ref x2, .ref x3, .int zc, .ref mH, .int zy, .int za, .int zb, .int zs, .int zq, .int zw, .int 0, .ref mY, .int zn, .ref mE, .int zm, .int zl, .ref mW, .int zk, .ref mO, .int zd, .ref y1, .ref y2, .ref y3, .ref y4, .ref mZ])), (mL, .inl (cI, 512, .inl eLa)), (mB, .inl (cS, 131072, .inl eB)), (mD, .inl (cI, 2, .inl eD))] → va_S A s.heap H locs → lv_has ls 4 [(3, .int k), (2, .int x_3), (0, .ref oM), (1, .int cd)] → W p l e (headSpec wsX12_blank ({ frames := 0, cells := 0, slots := 0, locals := 0 } : Room)).room s m ([.ref oM, .int cd] : List Value).toArray below meth c H locs 0 0 (MQ below QQ ([.ref oM, .int cd] : List Value).toArray s 0 0 A) (F0 m 23 ls []) := by
        clear hP hD hS hl
        intro k_23
        induction k_23 with
        | zero =>
          intro k eLa H locs ls hm_23 g_k g_eLa hfL hP hD hS hl
          exact ms_0 hm_23
        | succ k_23 ih_23 =>
          intro k eLa H locs ls hm_23 g_k g_eLa hfL hP hD hS hl
          refine lv_iload_n hx hb dX12_blank_23 rfl (lv_at hl 0 rfl) ?_
          refine lv_sipush (v := 256) hx hb dX12_blank_24 (by decide) ?_
          refine lv_icmp_ge (tgt := 49) hx hb dX12_blank_27 (by decide) (fun c_4 => ?_) (fun c_4 => ?_)
          · have tc_4 : 256 ≤ k.toInt := v_le c_4
            refine lv_iconst (v := 0) hx hb dX12_blank_49 (by decide) ?_
            refine lv_istore_n (lv' := [(3, .int 0), (2, .int x_3), (0, .ref oM), (1, .int cd)]) hx hb dX12_blank_50 rfl hl (by decide) rfl (fun ls hl => ?_)
            have LOOP_51 : ∀ (k_51 : Nat) (k2 : Int32) (eBa : Nat → Int32) (H : Heap) (locs : List Loc) (ls : Array Slot), MSd (65536 - k2.toInt : Int) k_51 → (0 ≤ k2.toInt ∧ k2.toInt ≤ 65536) → (rg (-1) 255 eBa) → (FB (65536 * x_3.toInt) k2.toInt eB eBa) → va_P (dC, dI) vwCl [(oM, .inr (12, [.ref mT, .int zt, .ref mS, .ref mX, .int zp, .int zf, .ref mL, .ref mB, .ref mD, .ref m1, .ref m2, .int zh, .ref mR, .int zr, .ref x1, .ref x2, .ref x3, .int zc, .ref mH, .int zy, .int za, .int zb, .int zs, .int zq, .int zw, .int 0, .ref mY, .int zn, .ref mE, .int zm, .int zl, .ref mW, .int zk, .ref mO, .int zd, .ref y1, .ref y2, .ref y3, .ref y4, .ref mZ])), (mL, .inl (cI, 512, .inl eLa)), (mB, .inl (cS, 131072, .inl eBa)), (mD, .inl (cI, 2, .inl eD))] H → va_D A [(oM, .inr (12, [.ref mT, .int zt, .ref mS, .ref mX, .int zp, .int zf, .ref mL, .ref mB, .ref mD, .ref m1, .ref m2, .int zh, .ref mR, .int zr, .ref x1, .ref x2, .ref x3, .int zc, .ref mH, .int zy, .int za, .int zb, .int zs, .int zq, .int zw, .int 0, .ref mY, .int zn, .ref mE, .int zm, .int zl, .ref mW, .int zk, .ref mO, .int zd, .ref y1, .ref y2, .ref y3, .ref y4, .ref mZ])), (mL, .inl (cI, 512, .inl eLa)), (mB, .inl (cS, 131072, .inl eBa)), (mD, .inl (cI, 2, .inl eD))] → va_S A s.heap H locs → lv_has ls 4 [(3, .int k2), (2, .int x_3), (0, .ref oM), (1, .int cd)] → W p l e (headSpec wsX12_blank ({ frames := 0, cells := 0, slots := 0, locals := 0 } : Room)).room s m ([.ref oM, .int cd] : List Value).toArray below meth c H locs 0 0 (MQ below QQ ([.ref oM, .int cd] : List Value).toArray s 0 0 A) (F0 m 51 ls []) := by
              clear hP hD hS hl
              intro k_51
              induction k_51 with
              | zero =>
                intro k2 eBa H locs ls hm_51 g_k2 g_eBa hfB hP hD hS hl
                exact ms_0 hm_51
              | succ k_51 ih_51 =>
                intro k2 eBa H locs ls hm_51 g_k2 g_eBa hfB hP hD hS hl
                refine lv_iload_n hx hb dX12_blank_51 rfl (lv_at hl 0 rfl) ?_
                refine lv_ldc hx hb hown (hts (.constant RX12 88 (65536)) (List.mem_of_getElem? (i := 3) rfl)) dX12_blank_52 ?_
                refine lv_icmp_ge (tgt := 75) hx hb dX12_blank_54 (by decide) (fun c_5 => ?_) (fun c_5 => ?_)
                · have tc_5 : 65536 ≤ k2.toInt := v_le c_5
                  refine lv_aload_n hx hb dX12_blank_75 rfl (lv_at hl 2 rfl) ?_
                  refine va_get (D := (dC, dI)) (ci := 12) (v := .ref mD) (C := RX12) (T := TX12) (N := 40) hx hb hts in_X12 hown hK hP 0 rfl rfl 8 (by decide) (hts (.fieldLink RX12 27 "TextMenderModel" "told" "[I") (List.mem_of_getElem? (i := 5) rfl)) (fun _ h9 => h9) rfl dX12_blank_76 ?_
                  refine lv_iload_n hx hb dX12_blank_79 rfl (lv_at hl 1 rfl) ?_
                  refine lv_iconst (v := 0) hx hb dX12_blank_80 (by decide) ?_
                  refine va_iast hx hb hK hP hD hS 3 0 rfl rfl (v_in (by omega)) dX12_blank_81 (fun H locs hPn hDn hSn => ?_)
                  clear hP hD hS
                  have hP : va_P (dC, dI) vwCl [(oM, .inr (12, [.ref mT, .int zt, .ref mS, .ref mX, .int zp, .int zf, .ref mL, .ref mB, .ref mD, .ref m1, .ref m2, .int zh, .ref mR, .int zr, .ref x1, .ref x2, .ref x3, .int zc, .ref mH, .int zy, .int za, .int zb, .int zs, .int zq, .int zw, .int 0, .ref mY, .int zn, .ref mE, .int zm, .int zl, .ref mW, .int zk, .ref mO, .int zd, .ref y1, .ref y2, .ref y3, .ref y4, .ref mZ])), (mL, .inl (cI, 512, .inl eLa)), (mB, .inl (cS, 131072, .inl eBa)), (mD, .inl (cI, 2, .inl (upd eD (x_3 : Int32).toNatClampNeg 0)))] H := hPn
                  have hD : va_D A [(oM, .inr (12, [.ref mT, .int zt, .ref mS, .ref mX, .int zp, .int zf, .ref mL, .ref mB, .ref mD, .ref m1, .ref m2, .int zh, .ref mR, .int zr, .ref x1, .ref x2, .ref x3, .int zc, .ref mH, .int zy, .int za, .int zb, .int zs, .int zq, .int zw, .int 0, .ref mY, .int zn, .ref mE, .int zm, .int zl, .ref mW, .int zk, .ref mO, .int zd, .ref y1, .ref y2, .ref y3, .ref y4, .ref mZ])), (mL, .inl (cI, 512, .inl eLa)), (mB, .inl (cS, 131072, .inl eBa)), (mD, .inl (cI, 2, .inl (upd eD (x_3 : Int32).toNatClampNeg 0)))] := hDn
                  have hS := hSn
                  clear hPn hDn hSn
                  obtain ⟨f_6, ef_6⟩ : ∃ g : Nat → Int32, g = upd eD (x_3 : Int32).toNatClampNeg 0 := ⟨_, rfl⟩
                  rw [← ef_6] at hP hD
                  refine lv_aload_n hx hb dX12_blank_82 rfl (lv_at hl 2 rfl) ?_
                  refine lv_dup hx hb dX12_blank_83 rfl ?_
                  refine va_get (D := (dC, dI)) (ci := 12) (v := .int zs) (C := RX12) (T := TX12) (N := 40) hx hb hts in_X12 hown hK hP 0 rfl rfl 22 (by decide) (hts (.fieldLink RX12 148 "TextMenderModel" "state" "I") (List.mem_of_getElem? (i := 6) rfl)) (fun _ h9 => h9) rfl dX12_blank_84 ?_
                  refine lv_iconst (v := 1) hx hb dX12_blank_87 (by decide) ?_
                  refine lv_iadd hx hb dX12_blank_88 ?_
                  refine lv_topi (fun x_7 ex_7 => ?_)
                  have tx_7 : x_7.toInt = zs.toInt + 1 := v_add ex_7 (by show -2147483648 ≤ zs.toInt + 1; omega) (by show zs.toInt + 1 < 2147483648; omega)
                  refine va_put (D := (dC, dI)) (ci := 12) (v := .int x_7) (ty := .int) (C := RX12) (T := TX12) (N := 40) hx hb hts in_X12 tyX12 tyX12_ok nmX12 hown hK hP hD hS 0 rfl rfl 22 (by decide) (hts (.fieldLink RX12 148 "TextMenderModel" "state" "I") (List.mem_of_getElem? (i := 6) rfl)) (fun _ h9 => h9) rfl (by decide +kernel) rfl rfl (Nat.le_of_ble_eq_true rfl) dX12_blank_89 (fun H locs hPn hDn hSn => ?_)
                  clear hP hD hS
                  have hP : va_P (dC, dI) vwCl [(oM, .inr (12, [.ref mT, .int zt, .ref mS, .ref mX, .int zp, .int zf, .ref mL, .ref mB, .ref mD, .ref m1, .ref m2, .int zh, .ref mR, .int zr, .ref x1, .ref x2, .ref x3, .int zc, .ref mH, .int zy, .int za, .int zb, .int x_7, .int zq, .int zw, .int 0, .ref mY, .int zn, .ref mE, .int zm, .int zl, .ref mW, .int zk, .ref mO, .int zd, .ref y1, .ref y2, .ref y3, .ref y4, .ref mZ])), (mL, .inl (cI, 512, .inl eLa)), (mB, .inl (cS, 131072, .inl eBa)), (mD, .inl (cI, 2, .inl f_6))] H := hPn
                  have hD : va_D A [(oM, .inr (12, [.ref mT, .int zt, .ref mS, .ref mX, .int zp, .int zf, .ref mL, .ref mB, .ref mD, .ref m1, .ref m2, .int zh, .ref mR, .int zr, .ref x1, .ref x2, .ref x3, .int zc, .ref mH, .int zy, .int za, .int zb, .int x_7, .int zq, .int zw, .int 0, .ref mY, .int zn, .ref mE, .int zm, .int zl, .ref mW, .int zk, .ref mO, .int zd, .ref y1, .ref y2, .ref y3, .ref y4, .ref mZ])), (mL, .inl (cI, 512, .inl eLa)), (mB, .inl (cS, 131072, .inl eBa)), (mD, .inl (cI, 2, .inl f_6))] := hDn
                  have hS := hSn
                  clear hPn hDn hSn
                  refine lv_iconst (v := 1) hx hb dX12_blank_92 (by decide) ?_
                  have hP9 := hP.sub (ws' := [(oM, .inr (12, [.ref mT, .int zt, .ref mS, .ref mX, .int zp, .int zf, .ref mL, .ref mB, .ref mD, .ref m1, .ref m2, .int zh, .ref mR, .int zr, .ref x1, .ref x2, .ref x3, .int zc, .ref mH, .int zy, .int za, .int zb, .int x_7, .int zq, .int zw, .int 0, .ref mY, .int zn, .ref mE, .int zm, .int zl, .ref mW, .int zk, .ref mO, .int zd, .ref y1, .ref y2, .ref y3, .ref y4, .ref mZ])), (mL, .inl (cI, 512, .inl eLa)), (mB, .inl (cS, 131072, .inl eBa)), (mD, .inl (cI, 2, .inl f_6))]) [0, 1, 2, 3] rfl
                  have hD9 := hD.sub (ws' := [(oM, .inr (12, [.ref mT, .int zt, .ref mS, .ref mX, .int zp, .int zf, .ref mL, .ref mB, .ref mD, .ref m1, .ref m2, .int zh, .ref mR, .int zr, .ref x1, .ref x2, .ref x3, .int zc, .ref mH, .int zy, .int za, .int zb, .int x_7, .int zq, .int zw, .int 0, .ref mY, .int zn, .ref mE, .int zm, .int zl, .ref mW, .int zk, .ref mO, .int zd, .ref y1, .ref y2, .ref y3, .ref y4, .ref mZ])), (mL, .inl (cI, 512, .inl eLa)), (mB, .inl (cS, 131072, .inl eBa)), (mD, .inl (cI, 2, .inl f_6))]) [0, 1, 2, 3] (by decide +kernel) rfl
                  rw [hQQ]
                  exact W.zret (v := 1) (ty := .boolean) hx hb hr (rfl) (fun t ht hW => ⟨⟨1, 1, rfl, rfl, ⟨0, eLa, eBa, f_6, x_7, by rw [ht]; exact hP9, hD9, g_eLa, g_eBa, by omega, by show (1 = 1 ∧ (cd.toInt = 4 ∨ cd.toInt = 5)) ∨ (1 = 0 ∧ ¬ cd.toInt = 4 ∧ ¬ cd.toInt = 5); omega, by show x_7.toInt ≤ zs.toInt + 1 ∧ zs.toInt ≤ x_7.toInt; omega, blankR_of (t2 := x_3) (by omega) (by omega) (by omega) (FB_n hfL (by omega)) (FB_n hfB (by omega)) ef_6, by first | exact Or.inl ⟨by first | rfl | omega, rfl⟩ | exact Or.inr ⟨by first | decide | omega, by omega⟩⟩⟩, hS.F ht⟩) hS.2.2 dX12_blank_93
                · have tc_5 : k2.toInt < 65536 := v_nle c_5
                  refine lv_aload_n hx hb dX12_blank_57 rfl (lv_at hl 2 rfl) ?_
                  refine va_get (D := (dC, dI)) (ci := 12) (v := .ref mB) (C := RX12) (T := TX12) (N := 40) hx hb hts in_X12 hown hK hP 0 rfl rfl 7 (by decide) (hts (.fieldLink RX12 23 "TextMenderModel" "byteOfLetter" "[S") (List.mem_of_getElem? (i := 4) rfl)) (fun _ h9 => h9) rfl dX12_blank_58 ?_
                  refine lv_ldc hx hb hown (hts (.constant RX12 88 (65536)) (List.mem_of_getElem? (i := 3) rfl)) dX12_blank_61 ?_
                  refine lv_iload_n hx hb dX12_blank_63 rfl (lv_at hl 1 rfl) ?_
                  refine lv_imul hx hb dX12_blank_64 ?_
                  refine lv_topi (fun x_8 ex_8 => ?_)
                  have tx_8 : x_8.toInt = 65536 * x_3.toInt := v_mul ex_8 (by show -2147483648 ≤ 65536 * x_3.toInt; omega) (by show 65536 * x_3.toInt < 2147483648; omega)
                  refine lv_iload_n hx hb dX12_blank_65 rfl (lv_at hl 0 rfl) ?_
                  refine lv_iadd hx hb dX12_blank_66 ?_
                  refine lv_topi (fun x_9 ex_9 => ?_)
                  have tx_9 : x_9.toInt = x_8.toInt + k2.toInt := v_add ex_9 (by show -2147483648 ≤ x_8.toInt + k2.toInt; omega) (by show x_8.toInt + k2.toInt < 2147483648; omega)
                  refine lv_iconst (v := (-1)) hx hb dX12_blank_67 (by decide) ?_
                  refine va_sast hx hb hK hP hD hS 2 1 rfl rfl (v_in (by omega)) dX12_blank_68 (fun H locs hPn hDn hSn => ?_)
                  clear hP hD hS
                  have hP : va_P (dC, dI) vwCl [(oM, .inr (12, [.ref mT, .int zt, .ref mS, .ref mX, .int zp, .int zf, .ref mL, .ref mB, .ref mD, .ref m1, .ref m2, .int zh, .ref mR, .int zr, .ref x1, .ref x2, .ref x3, .int zc, .ref mH, .int zy, .int za, .int zb, .int zs, .int zq, .int zw, .int 0, .ref mY, .int zn, .ref mE, .int zm, .int zl, .ref mW, .int zk, .ref mO, .int zd, .ref y1, .ref y2, .ref y3, .ref y4, .ref mZ])), (mL, .inl (cI, 512, .inl eLa)), (mB, .inl (cS, 131072, .inl (upd eBa (x_9 : Int32).toNatClampNeg (vp_nar .short (-1))))), (mD, .inl (cI, 2, .inl eD))] H := hPn
                  have hD : va_D A [(oM, .inr (12, [.ref mT, .int zt, .ref mS, .ref mX, .int zp, .int zf, .ref mL, .ref mB, .ref mD, .ref m1, .ref m2, .int zh, .ref mR, .int zr, .ref x1, .ref x2, .ref x3, .int zc, .ref mH, .int zy, .int za, .int zb, .int zs, .int zq, .int zw, .int 0, .ref mY, .int zn, .ref mE, .int zm, .int zl, .ref mW, .int zk, .ref mO, .int zd, .ref y1, .ref y2, .ref y3, .ref y4, .ref mZ])), (mL, .inl (cI, 512, .inl eLa)), (mB, .inl (cS, 131072, .inl (upd eBa (x_9 : Int32).toNatClampNeg (vp_nar .short (-1))))), (mD, .inl (cI, 2, .inl eD))] := hDn
                  have hS := hSn
                  clear hPn hDn hSn
                  obtain ⟨f_10, ef_10⟩ : ∃ g : Nat → Int32, g = upd eBa (x_9 : Int32).toNatClampNeg (vp_nar .short (-1)) := ⟨_, rfl⟩
                  rw [← ef_10] at hP hD
                  have g_f10 : rg (-1) 255 f_10 := rg_upd ef_10 g_eBa (by decide)
                  obtain ⟨x_11, ex_11⟩ : ∃ y : Int32, y = k2 + 1 := ⟨_, rfl⟩
                  have tx_11 : x_11.toInt = k2.toInt + 1 := v_add ex_11 (by show -2147483648 ≤ k2.toInt + 1; omega) (by show k2.toInt + 1 < 2147483648; omega)
                  refine lv_iinc (v := x_11) (lv' := [(3, .int x_11), (2, .int x_3), (0, .ref oM), (1, .int cd)]) hx hb dX12_blank_69 hl (k := 0) rfl (by rw [ex_11]; rfl) (by decide) rfl (fun ls hl => ?_)
                  refine lv_goto (tgt := 51) hx hb dX12_blank_72 (by decide) ?_
                  exact ih_51 x_11 f_10 _ _ _ (ms_lt hm_51 (by show ((65536 - x_11.toInt : Int)) < 65536 - k2.toInt; omega) (by show (0 : Int) < 65536 - k2.toInt; omega)) (by show 0 ≤ x_11.toInt ∧ x_11.toInt ≤ 65536; omega) (g_f10) (FB_s hfB (by omega) (by omega) (a := x_9) (by omega) ef_10 (by decide) (by omega)) hP hD hS (lv_sub hl [0, 1, 2, 3] rfl)
            exact LOOP_51 _ 0 eB _ _ _ (ms_s _) (by decide) (g_eB) (FB_0 (by decide)) hP hD hS (lv_sub hl [0, 1, 2, 3] rfl)
          · have tc_4 : k.toInt < 256 := v_nle c_4
            refine lv_aload_n hx hb dX12_blank_30 rfl (lv_at hl 2 rfl) ?_
            refine va_get (D := (dC, dI)) (ci := 12) (v := .ref mL) (C := RX12) (T := TX12) (N := 40) hx hb hts in_X12 hown hK hP 0 rfl rfl 6 (by decide) (hts (.fieldLink RX12 19 "TextMenderModel" "letterOf" "[I") (List.mem_of_getElem? (i := 2) rfl)) (fun _ h9 => h9) rfl dX12_blank_31 ?_
            refine lv_sipush (v := 256) hx hb dX12_blank_34 (by decide) ?_
            refine lv_iload_n hx hb dX12_blank_37 rfl (lv_at hl 1 rfl) ?_
            refine lv_imul hx hb dX12_blank_38 ?_
            refine lv_topi (fun x_12 ex_12 => ?_)
            have tx_12 : x_12.toInt = 256 * x_3.toInt := v_mul ex_12 (by show -2147483648 ≤ 256 * x_3.toInt; omega) (by show 256 * x_3.toInt < 2147483648; omega)
            refine lv_iload_n hx hb dX12_blank_39 rfl (lv_at hl 0 rfl) ?_
            refine lv_iadd hx hb dX12_blank_40 ?_
            refine lv_topi (fun x_13 ex_13 => ?_)
            have tx_13 : x_13.toInt = x_12.toInt + k.toInt := v_add ex_13 (by show -2147483648 ≤ x_12.toInt + k.toInt; omega) (by show x_12.toInt + k.toInt < 2147483648; omega)
            refine lv_iconst (v := (-1)) hx hb dX12_blank_41 (by decide) ?_
            refine va_iast hx hb hK hP hD hS 1 0 rfl rfl (v_in (by omega)) dX12_blank_42 (fun H locs hPn hDn hSn => ?_)
            clear hP hD hS
            have hP : va_P (dC, dI) vwCl [(oM, .inr (12, [.ref mT, .int zt, .ref mS, .ref mX, .int zp, .int zf, .ref mL, .ref mB, .ref mD, .ref m1, .ref m2, .int zh, .ref mR, .int zr, .ref x1, .ref x2, .ref x3, .int zc, .ref mH, .int zy, .int za, .int zb, .int zs, .int zq, .int zw, .int 0, .ref mY, .int zn, .ref mE, .int zm, .int zl, .ref mW, .int zk, .ref mO, .int zd, .ref y1, .ref y2, .ref y3, .ref y4, .ref mZ])), (mL, .inl (cI, 512, .inl (upd eLa (x_13 : Int32).toNatClampNeg (-1)))), (mB, .inl (cS, 131072, .inl eB)), (mD, .inl (cI, 2, .inl eD))] H := hPn
            have hD : va_D A [(oM, .inr (12, [.ref mT, .int zt, .ref mS, .ref mX, .int zp, .int zf, .ref mL, .ref mB, .ref mD, .ref m1, .ref m2, .int zh, .ref mR, .int zr, .ref x1, .ref x2, .ref x3, .int zc, .ref mH, .int zy, .int za, .int zb, .int zs, .int zq, .int zw, .int 0, .ref mY, .int zn, .ref mE, .int zm, .int zl, .ref mW, .int zk, .ref mO, .int zd, .ref y1, .ref y2, .ref y3, .ref y4, .ref mZ])), (mL, .inl (cI, 512, .inl (upd eLa (x_13 : Int32).toNatClampNeg (-1)))), (mB, .inl (cS, 131072, .inl eB)), (mD, .inl (cI, 2, .inl eD))] := hDn
            have hS := hSn
            clear hPn hDn hSn
            obtain ⟨f_14, ef_14⟩ : ∃ g : Nat → Int32, g = upd eLa (x_13 : Int32).toNatClampNeg (-1) := ⟨_, rfl⟩
            rw [← ef_14] at hP hD
            have g_f14 : rg (-1) 65535 f_14 := rg_upd ef_14 g_eLa (by decide)
            obtain ⟨x_15, ex_15⟩ : ∃ y : Int32, y = k + 1 := ⟨_, rfl⟩
            have tx_15 : x_15.toInt = k.toInt + 1 := v_add ex_15 (by show -2147483648 ≤ k.toInt + 1; omega) (by show k.toInt + 1 < 2147483648; omega)
            refine lv_iinc (v := x_15) (lv' := [(3, .int x_15), (2, .int x_3), (0, .ref oM), (1, .int cd)]) hx hb dX12_blank_43 hl (k := 0) rfl (by rw [ex_15]; rfl) (by decide) rfl (fun ls hl => ?_)
            refine lv_goto (tgt := 23) hx hb dX12_blank_46 (by decide) ?_
            exact ih_23 x_15 f_14 _ _ _ (ms_lt hm_23 (by show ((256 - x_15.toInt : Int)) < 256 - k.toInt; omega) (by show (0 : Int) < 256 - k.toInt; omega)) (by show 0 ≤ x_15.toInt ∧ x_15.toInt ≤ 256; omega) (g_f14) (FB_s hfL (by omega) (by omega) (a := x_13) (by omega) ef_14 rfl (by omega)) hP hD hS (lv_sub hl [0, 1, 2, 3] rfl)
      exact LOOP_23 _ 0 eL _ _ _ (ms_s _) (by decide) (g_eL) (FB_0 (by decide)) hP hD hS (lv_sub hl [0, 1, 2, 3] rfl)
    · have tc_2 : 5 < cd.toInt := v_nle c_2
      refine lv_iconst (v := 0) hx hb dX12_blank_15 (by decide) ?_
      have hP9 := hP.sub (ws' := [(oM, .inr (12, [.ref mT, .int zt, .ref mS, .ref mX, .int zp, .int zf, .ref mL, .ref mB, .ref mD, .ref m1, .ref m2, .int zh, .ref mR, .int zr, .ref x1, .ref x2, .ref x3, .int zc, .ref mH, .int zy, .int za, .int zb, .int zs, .int zq, .int zw, .int 0, .ref mY, .int zn, .ref mE, .int zm, .int zl, .ref mW, .int zk, .ref mO, .int zd, .ref y1, .ref y2, .ref y3, .ref y4, .ref mZ])), (mL, .inl (cI, 512, .inl eL)), (mB, .inl (cS, 131072, .inl eB)), (mD, .inl (cI, 2, .inl eD))]) [0, 1, 2, 3] rfl
      have hD9 := hD.sub (ws' := [(oM, .inr (12, [.ref mT, .int zt, .ref mS, .ref mX, .int zp, .int zf, .ref mL, .ref mB, .ref mD, .ref m1, .ref m2, .int zh, .ref mR, .int zr, .ref x1, .ref x2, .ref x3, .int zc, .ref mH, .int zy, .int za, .int zb, .int zs, .int zq, .int zw, .int 0, .ref mY, .int zn, .ref mE, .int zm, .int zl, .ref mW, .int zk, .ref mO, .int zd, .ref y1, .ref y2, .ref y3, .ref y4, .ref mZ])), (mL, .inl (cI, 512, .inl eL)), (mB, .inl (cS, 131072, .inl eB)), (mD, .inl (cI, 2, .inl eD))]) [0, 1, 2, 3] (by decide +kernel) rfl
      rw [hQQ]
      exact W.zret (v := 0) (ty := .boolean) hx hb hr (rfl) (fun t ht hW => ⟨⟨0, 0, rfl, rfl, ⟨0, eL, eB, eD, zs, by rw [ht]; exact hP9, hD9, g_eL, g_eB, g_zs, by show (0 = 1 ∧ (cd.toInt = 4 ∨ cd.toInt = 5)) ∨ (0 = 0 ∧ ¬ cd.toInt = 4 ∧ ¬ cd.toInt = 5); omega, by show zs.toInt ≤ zs.toInt + 1 ∧ zs.toInt ≤ zs.toInt; omega, Or.inr ⟨by omega, by omega, rfl, rfl, rfl⟩, by first | exact Or.inl ⟨by first | rfl | omega, rfl⟩ | exact Or.inr ⟨by first | decide | omega, by omega⟩⟩⟩, hS.F ht⟩) hS.2.2 dX12_blank_16

set_option maxHeartbeats 40000000 in
set_option maxRecDepth 100000 in
theorem f_X2_letterAlone (l : Launch) (dC : Nat → ClassId) (dI : Nat → Nat → Nat) (cI cS : ClassId) (sz : Nat) (oC : Nat) (o4 : Nat) (o5 : Nat) (a41 : Nat) (a42 : Nat) (a43 : Nat) (a51 : Nat) (a52 : Nat) (a53 : Nat) (l4 : Int32) (f41 : Nat → Int32) (l5 : Int32) (f51 : Nat → Int32) (cd : Int32) (v : Int32) (g_v : 0 ≤ v.toInt ∧ v.toInt ≤ 255) : Met l yX2_letterAlone wsX2_letterAlone ({ frames := 1, cells := 0, slots := 0, locals := 21 } : Room) (va_Pc [.ref oC, .int cd, .int v] (fun U => U.heap.size = sz ∧ va_P (dC, dI) vwCl [(oC, .inr (2, [.ref o4, .ref o5])), (o4, .inr (10, [.ref a41, .ref a42, .ref a43, .int l4])), (a41, .inl (cI, 256, .inl f41)), (o5, .inr (10, [.ref a51, .ref a52, .ref a53, .int l5])), (a51, .inl (cI, 256, .inl f51))] U.heap ∧ va_K (dC, dI) vwCl [(cI, .int), (cS, .short)] U ∧ va_D (fun _ => True) [(oC, .inr (2, [.ref o4, .ref o5])), (o4, .inr (10, [.ref a41, .ref a42, .ref a43, .int l4])), (a41, .inl (cI, 256, .inl f41)), (o5, .inr (10, [.ref a51, .ref a52, .ref a53, .int l5])), (a51, .inl (cI, 256, .inl f51))])) (va_Qi (fun (r : Int32) (u : Int32) => r = u) (fun (r : Int32) t => va_P (dC, dI) vwCl [(oC, .inr (2, [.ref o4, .ref o5])), (o4, .inr (10, [.ref a41, .ref a42, .ref a43, .int l4])), (a41, .inl (cI, 256, .inl f41)), (o5, .inr (10, [.ref a51, .ref a52, .ref a53, .int l5])), (a51, .inl (cI, 256, .inl f51))] t.heap ∧ va_D (va_A [(oC, .inr (2, [.ref o4, .ref o5])), (o4, .inr (10, [.ref a41, .ref a42, .ref a43, .int l4])), (a41, .inl (cI, 256, .inl f41)), (o5, .inr (10, [.ref a51, .ref a52, .ref a53, .int l5])), (a51, .inl (cI, 256, .inl f51))] sz) [(oC, .inr (2, [.ref o4, .ref o5])), (o4, .inr (10, [.ref a41, .ref a42, .ref a43, .int l4])), (a41, .inl (cI, 256, .inl f41)), (o5, .inr (10, [.ref a51, .ref a52, .ref a53, .int l5])), (a51, .inl (cI, 256, .inl f51))] ∧ (r = alF cd v f41 f51)) (va_A [(oC, .inr (2, [.ref o4, .ref o5])), (o4, .inr (10, [.ref a41, .ref a42, .ref a43, .int l4])), (a41, .inl (cI, 256, .inl f41)), (o5, .inr (10, [.ref a51, .ref a52, .ref a53, .int l5])), (a51, .inl (cI, 256, .inl f51))] sz)) 0 0 (va_A [(oC, .inr (2, [.ref o4, .ref o5])), (o4, .inr (10, [.ref a41, .ref a42, .ref a43, .int l4])), (a41, .inl (cI, 256, .inl f41)), (o5, .inr (10, [.ref a51, .ref a52, .ref a53, .int l5])), (a51, .inl (cI, 256, .inl f51))] sz) := by
  refine Met.ofW (cc := cX2_letterAlone) (maxL := 4) (ret := (some .int)) (by decide) rfl ?_
  intro p e s m args below meth c s₁ B hml hv
  obtain ⟨rfl, hsz, hP, hK, hD0⟩ := hv
  have hx := B.exec
  have hb := B.bytes
  have hr := B.returns
  have hts := atoms_spec (ws := wsX2_letterAlone) B.pre
  have hown : s.vm.findClass RX2 = some m.cls := findClass_of_methodNamed B.named
  have hlocks := B.notSynchronized
  subst hsz
  have hD := hD0.self (sz := s.heap.size)
  generalize hAe : va_A [(oC, .inr (2, [.ref o4, .ref o5])), (o4, .inr (10, [.ref a41, .ref a42, .ref a43, .int l4])), (a41, .inl (cI, 256, .inl f41)), (o5, .inr (10, [.ref a51, .ref a52, .ref a53, .int l5])), (a51, .inl (cI, 256, .inl f51))] s.heap.size = A at hD ⊢
  have hA : ∀ q : Nat, s.heap.size ≤ q → A q := fun q h => by rw [← hAe]; exact Or.inr h
  have hS : va_S A s.heap s.heap [] := va_S.rf
  have hP : va_P (dC, dI) vwCl [(oC, .inr (2, [.ref o4, .ref o5])), (o4, .inr (10, [.ref a41, .ref a42, .ref a43, .int l4])), (a41, .inl (cI, 256, .inl f41)), (o5, .inr (10, [.ref a51, .ref a52, .ref a53, .int l5])), (a51, .inl (cI, 256, .inl f51))] s.heap := hP
  have hl := lv_entry ([.ref oC, .int cd, .int v]) (n := 4) (Nat.le_of_ble_eq_true rfl)
  rw [lg_entry_eq]
  generalize (lg_sl ([.ref oC, .int cd, .int v]) ++ List.replicate (4 - (lg_sl ([.ref oC, .int cd, .int v])).length) Slot.unset).toArray = ls at hl ⊢
  have hl : lv_has ls 4 [(0, .ref oC), (1, .int cd), (2, .int v)] := hl
  obtain ⟨QQ, hQQ⟩ : ∃ QQ : Array Value → State → Outcome → State → Prop, QQ = va_Qi (fun (r : Int32) (u : Int32) => r = u) (fun (r : Int32) t => va_P (dC, dI) vwCl [(oC, .inr (2, [.ref o4, .ref o5])), (o4, .inr (10, [.ref a41, .ref a42, .ref a43, .int l4])), (a41, .inl (cI, 256, .inl f41)), (o5, .inr (10, [.ref a51, .ref a52, .ref a53, .int l5])), (a51, .inl (cI, 256, .inl f51))] t.heap ∧ va_D A [(oC, .inr (2, [.ref o4, .ref o5])), (o4, .inr (10, [.ref a41, .ref a42, .ref a43, .int l4])), (a41, .inl (cI, 256, .inl f41)), (o5, .inr (10, [.ref a51, .ref a52, .ref a53, .int l5])), (a51, .inl (cI, 256, .inl f51))] ∧ (r = alF cd v f41 f51)) A := ⟨_, rfl⟩
  rw [← hQQ]
  refine lv_iload_n hx hb dX2_letterAlone_0 rfl (lv_at hl 1 rfl) ?_
  by_cases c_1 : cd = 0
  · refine lv_tableIn (tgt := 32) hx hb dX2_letterAlone_1 (by rw [c_1]; decide) (by rw [c_1]; decide) (by rw [c_1]; rfl) (by decide) ?_
    have tc_1 : cd.toInt = 0 := v_eq c_1
    refine lv_iload_n hx hb dX2_letterAlone_32 rfl (lv_at hl 2 rfl) ?_
    refine lv_sipush (v := 128) hx hb dX2_letterAlone_33 (by decide) ?_
    refine lv_icmp_ge (tgt := 43) hx hb dX2_letterAlone_36 (by decide) (fun c_2 => ?_) (fun c_2 => ?_)
    · have tc_2 : 128 ≤ v.toInt := v_le c_2
      refine lv_iconst (v := (-1)) hx hb dX2_letterAlone_43 (by decide) ?_
      have hP9 := hP.sub (ws' := [(oC, .inr (2, [.ref o4, .ref o5])), (o4, .inr (10, [.ref a41, .ref a42, .ref a43, .int l4])), (a41, .inl (cI, 256, .inl f41)), (o5, .inr (10, [.ref a51, .ref a52, .ref a53, .int l5])), (a51, .inl (cI, 256, .inl f51))]) [0, 1, 2, 3, 4] rfl
      have hD9 := hD.sub (ws' := [(oC, .inr (2, [.ref o4, .ref o5])), (o4, .inr (10, [.ref a41, .ref a42, .ref a43, .int l4])), (a41, .inl (cI, 256, .inl f41)), (o5, .inr (10, [.ref a51, .ref a52, .ref a53, .int l5])), (a51, .inl (cI, 256, .inl f51))]) [0, 1, 2, 3, 4] (by decide +kernel) rfl
      rw [hQQ]
      exact W.iret (v := (-1)) hx hb hr (fun t ht hW => ⟨⟨(-1), (-1), rfl, rfl, ⟨by rw [ht]; exact hP9, hD9, by unfold alF; (repeat (first | rw [if_pos (by omega)] | rw [if_neg (by omega)]))⟩⟩, hS.F ht⟩) hS.2.2 dX2_letterAlone_44
    · have tc_2 : v.toInt < 128 := v_nle c_2
      refine lv_iload_n hx hb dX2_letterAlone_39 rfl (lv_at hl 2 rfl) ?_
      refine lv_goto (tgt := 44) hx hb dX2_letterAlone_40 (by decide) ?_
      have hP9 := hP.sub (ws' := [(oC, .inr (2, [.ref o4, .ref o5])), (o4, .inr (10, [.ref a41, .ref a42, .ref a43, .int l4])), (a41, .inl (cI, 256, .inl f41)), (o5, .inr (10, [.ref a51, .ref a52, .ref a53, .int l5])), (a51, .inl (cI, 256, .inl f51))]) [0, 1, 2, 3, 4] rfl
      have hD9 := hD.sub (ws' := [(oC, .inr (2, [.ref o4, .ref o5])), (o4, .inr (10, [.ref a41, .ref a42, .ref a43, .int l4])), (a41, .inl (cI, 256, .inl f41)), (o5, .inr (10, [.ref a51, .ref a52, .ref a53, .int l5])), (a51, .inl (cI, 256, .inl f51))]) [0, 1, 2, 3, 4] (by decide +kernel) rfl
      rw [hQQ]
      exact W.iret (v := v) hx hb hr (fun t ht hW => ⟨⟨v, v, rfl, rfl, ⟨by rw [ht]; exact hP9, hD9, by unfold alF; (repeat (first | rw [if_pos (by omega)] | rw [if_neg (by omega)]))⟩⟩, hS.F ht⟩) hS.2.2 dX2_letterAlone_44
  · skip
    have tc_1 : ¬ cd.toInt = 0 := v_ne c_1
    by_cases c_3 : cd = 1
    · refine lv_tableIn (tgt := 45) hx hb dX2_letterAlone_1 (by rw [c_3]; decide) (by rw [c_3]; decide) (by rw [c_3]; rfl) (by decide) ?_
      have tc_3 : cd.toInt = 1 := v_eq c_3
      refine lv_iload_n hx hb dX2_letterAlone_45 rfl (lv_at hl 2 rfl) ?_
      have hP9 := hP.sub (ws' := [(oC, .inr (2, [.ref o4, .ref o5])), (o4, .inr (10, [.ref a41, .ref a42, .ref a43, .int l4])), (a41, .inl (cI, 256, .inl f41)), (o5, .inr (10, [.ref a51, .ref a52, .ref a53, .int l5])), (a51, .inl (cI, 256, .inl f51))]) [0, 1, 2, 3, 4] rfl
      have hD9 := hD.sub (ws' := [(oC, .inr (2, [.ref o4, .ref o5])), (o4, .inr (10, [.ref a41, .ref a42, .ref a43, .int l4])), (a41, .inl (cI, 256, .inl f41)), (o5, .inr (10, [.ref a51, .ref a52, .ref a53, .int l5])), (a51, .inl (cI, 256, .inl f51))]) [0, 1, 2, 3, 4] (by decide +kernel) rfl
      rw [hQQ]
      exact W.iret (v := v) hx hb hr (fun t ht hW => ⟨⟨v, v, rfl, rfl, ⟨by rw [ht]; exact hP9, hD9, by unfold alF; (repeat (first | rw [if_pos (by omega)] | rw [if_neg (by omega)]))⟩⟩, hS.F ht⟩) hS.2.2 dX2_letterAlone_46
    · skip
      have tc_3 : ¬ cd.toInt = 1 := v_ne c_3
      by_cases c_4 : cd = 2
      · refine lv_tableIn (tgt := 32) hx hb dX2_letterAlone_1 (by rw [c_4]; decide) (by rw [c_4]; decide) (by rw [c_4]; rfl) (by decide) ?_
        have tc_4 : cd.toInt = 2 := v_eq c_4
        refine lv_iload_n hx hb dX2_letterAlone_32 rfl (lv_at hl 2 rfl) ?_
        refine lv_sipush (v := 128) hx hb dX2_letterAlone_33 (by decide) ?_
        refine lv_icmp_ge (tgt := 43) hx hb dX2_letterAlone_36 (by decide) (fun c_5 => ?_) (fun c_5 => ?_)
        · have tc_5 : 128 ≤ v.toInt := v_le c_5
          refine lv_iconst (v := (-1)) hx hb dX2_letterAlone_43 (by decide) ?_
          have hP9 := hP.sub (ws' := [(oC, .inr (2, [.ref o4, .ref o5])), (o4, .inr (10, [.ref a41, .ref a42, .ref a43, .int l4])), (a41, .inl (cI, 256, .inl f41)), (o5, .inr (10, [.ref a51, .ref a52, .ref a53, .int l5])), (a51, .inl (cI, 256, .inl f51))]) [0, 1, 2, 3, 4] rfl
          have hD9 := hD.sub (ws' := [(oC, .inr (2, [.ref o4, .ref o5])), (o4, .inr (10, [.ref a41, .ref a42, .ref a43, .int l4])), (a41, .inl (cI, 256, .inl f41)), (o5, .inr (10, [.ref a51, .ref a52, .ref a53, .int l5])), (a51, .inl (cI, 256, .inl f51))]) [0, 1, 2, 3, 4] (by decide +kernel) rfl
          rw [hQQ]
          exact W.iret (v := (-1)) hx hb hr (fun t ht hW => ⟨⟨(-1), (-1), rfl, rfl, ⟨by rw [ht]; exact hP9, hD9, by unfold alF; (repeat (first | rw [if_pos (by omega)] | rw [if_neg (by omega)]))⟩⟩, hS.F ht⟩) hS.2.2 dX2_letterAlone_44
        · have tc_5 : v.toInt < 128 := v_nle c_5
          refine lv_iload_n hx hb dX2_letterAlone_39 rfl (lv_at hl 2 rfl) ?_
          refine lv_goto (tgt := 44) hx hb dX2_letterAlone_40 (by decide) ?_
          have hP9 := hP.sub (ws' := [(oC, .inr (2, [.ref o4, .ref o5])), (o4, .inr (10, [.ref a41, .ref a42, .ref a43, .int l4])), (a41, .inl (cI, 256, .inl f41)), (o5, .inr (10, [.ref a51, .ref a52, .ref a53, .int l5])), (a51, .inl (cI, 256, .inl f51))]) [0, 1, 2, 3, 4] rfl
          have hD9 := hD.sub (ws' := [(oC, .inr (2, [.ref o4, .ref o5])), (o4, .inr (10, [.ref a41, .ref a42, .ref a43, .int l4])), (a41, .inl (cI, 256, .inl f41)), (o5, .inr (10, [.ref a51, .ref a52, .ref a53, .int l5])), (a51, .inl (cI, 256, .inl f51))]) [0, 1, 2, 3, 4] (by decide +kernel) rfl
          rw [hQQ]
          exact W.iret (v := v) hx hb hr (fun t ht hW => ⟨⟨v, v, rfl, rfl, ⟨by rw [ht]; exact hP9, hD9, by unfold alF; (repeat (first | rw [if_pos (by omega)] | rw [if_neg (by omega)]))⟩⟩, hS.F ht⟩) hS.2.2 dX2_letterAlone_44
      · skip
        have tc_4 : ¬ cd.toInt = 2 := v_ne c_4
        by_cases c_6 : cd = 3
        · refine lv_tableIn (tgt := 47) hx hb dX2_letterAlone_1 (by rw [c_6]; decide) (by rw [c_6]; decide) (by rw [c_6]; rfl) (by decide) ?_
          have tc_6 : cd.toInt = 3 := v_eq c_6
          refine lv_iload_n hx hb dX2_letterAlone_47 rfl (lv_at hl 2 rfl) ?_
          refine lv_sipush (v := 128) hx hb dX2_letterAlone_48 (by decide) ?_
          refine lv_icmp_ge (tgt := 64) hx hb dX2_letterAlone_51 (by decide) (fun c_7 => ?_) (fun c_7 => ?_)
          · have tc_7 : 128 ≤ v.toInt := v_le c_7
            refine lv_iconst (v := (-1)) hx hb dX2_letterAlone_64 (by decide) ?_
            have hP9 := hP.sub (ws' := [(oC, .inr (2, [.ref o4, .ref o5])), (o4, .inr (10, [.ref a41, .ref a42, .ref a43, .int l4])), (a41, .inl (cI, 256, .inl f41)), (o5, .inr (10, [.ref a51, .ref a52, .ref a53, .int l5])), (a51, .inl (cI, 256, .inl f51))]) [0, 1, 2, 3, 4] rfl
            have hD9 := hD.sub (ws' := [(oC, .inr (2, [.ref o4, .ref o5])), (o4, .inr (10, [.ref a41, .ref a42, .ref a43, .int l4])), (a41, .inl (cI, 256, .inl f41)), (o5, .inr (10, [.ref a51, .ref a52, .ref a53, .int l5])), (a51, .inl (cI, 256, .inl f51))]) [0, 1, 2, 3, 4] (by decide +kernel) rfl
            rw [hQQ]
            exact W.iret (v := (-1)) hx hb hr (fun t ht hW => ⟨⟨(-1), (-1), rfl, rfl, ⟨by rw [ht]; exact hP9, hD9, by unfold alF; (repeat (first | rw [if_pos (by omega)] | rw [if_neg (by omega)]))⟩⟩, hS.F ht⟩) hS.2.2 dX2_letterAlone_65
          · have tc_7 : v.toInt < 128 := v_nle c_7
            refine lv_iload_n hx hb dX2_letterAlone_54 rfl (lv_at hl 2 rfl) ?_
            refine lv_bipush (v := 38) hx hb dX2_letterAlone_55 (by decide) ?_
            refine lv_icmp_eq (tgt := 64) hx hb dX2_letterAlone_57 (by decide) (fun c_8 => ?_) (fun c_8 => ?_)
            · have tc_8 : v.toInt = 38 := v_eq c_8
              refine lv_iconst (v := (-1)) hx hb dX2_letterAlone_64 (by decide) ?_
              have hP9 := hP.sub (ws' := [(oC, .inr (2, [.ref o4, .ref o5])), (o4, .inr (10, [.ref a41, .ref a42, .ref a43, .int l4])), (a41, .inl (cI, 256, .inl f41)), (o5, .inr (10, [.ref a51, .ref a52, .ref a53, .int l5])), (a51, .inl (cI, 256, .inl f51))]) [0, 1, 2, 3, 4] rfl
              have hD9 := hD.sub (ws' := [(oC, .inr (2, [.ref o4, .ref o5])), (o4, .inr (10, [.ref a41, .ref a42, .ref a43, .int l4])), (a41, .inl (cI, 256, .inl f41)), (o5, .inr (10, [.ref a51, .ref a52, .ref a53, .int l5])), (a51, .inl (cI, 256, .inl f51))]) [0, 1, 2, 3, 4] (by decide +kernel) rfl
              rw [hQQ]
              exact W.iret (v := (-1)) hx hb hr (fun t ht hW => ⟨⟨(-1), (-1), rfl, rfl, ⟨by rw [ht]; exact hP9, hD9, by unfold alF; (repeat (first | rw [if_pos (by omega)] | rw [if_neg (by omega)]))⟩⟩, hS.F ht⟩) hS.2.2 dX2_letterAlone_65
            · have tc_8 : ¬ v.toInt = 38 := v_ne c_8
              refine lv_iload_n hx hb dX2_letterAlone_60 rfl (lv_at hl 2 rfl) ?_
              refine lv_goto (tgt := 65) hx hb dX2_letterAlone_61 (by decide) ?_
              have hP9 := hP.sub (ws' := [(oC, .inr (2, [.ref o4, .ref o5])), (o4, .inr (10, [.ref a41, .ref a42, .ref a43, .int l4])), (a41, .inl (cI, 256, .inl f41)), (o5, .inr (10, [.ref a51, .ref a52, .ref a53, .int l5])), (a51, .inl (cI, 256, .inl f51))]) [0, 1, 2, 3, 4] rfl
              have hD9 := hD.sub (ws' := [(oC, .inr (2, [.ref o4, .ref o5])), (o4, .inr (10, [.ref a41, .ref a42, .ref a43, .int l4])), (a41, .inl (cI, 256, .inl f41)), (o5, .inr (10, [.ref a51, .ref a52, .ref a53, .int l5])), (a51, .inl (cI, 256, .inl f51))]) [0, 1, 2, 3, 4] (by decide +kernel) rfl
              rw [hQQ]
              exact W.iret (v := v) hx hb hr (fun t ht hW => ⟨⟨v, v, rfl, rfl, ⟨by rw [ht]; exact hP9, hD9, by unfold alF; (repeat (first | rw [if_pos (by omega)] | rw [if_neg (by omega)]))⟩⟩, hS.F ht⟩) hS.2.2 dX2_letterAlone_65
        · skip
          have tc_6 : ¬ cd.toInt = 3 := v_ne c_6
          refine lv_tableOut (tgt := 66) hx hb dX2_letterAlone_1 (by omega) (by decide) ?_
          refine lv_aload_n hx hb dX2_letterAlone_66 rfl (lv_at hl 0 rfl) ?_
          refine lv_iload_n hx hb dX2_letterAlone_67 rfl (lv_at hl 1 rfl) ?_
          by_cases cs_9 : cd.toInt = 4
          · have hPc := hP.sub (ws' := [(oC, .inr (2, [.ref o4, .ref o5]))]) [0] rfl
            have hDc := hD.sub (ws' := [(oC, .inr (2, [.ref o4, .ref o5]))]) [0] (by decide +kernel) rfl
            have hFc := va_free (wc := [(oC, .inr (2, [.ref o4, .ref o5]))]) hD hS hA [0] rfl
            refine va_callr (va_runV (As := [.int cd]) (rest := []) ⟨hx, hb, hml, hown, hts⟩ (m_X2_toldCode_4 l dC dI cI cS s.heap.size oC o4 o5 cd (by omega)) (cwV 1 hts gX2_letterAlone_X2_toldCode rfl rfl rfl (by decide +kernel) ⟨Nat.le_of_ble_eq_true rfl, Nat.le_of_ble_eq_true rfl⟩) ⟨fun a U g mk q => by obtain ⟨q0, q1, qP, qK, qD⟩ := q; exact ⟨q0, q1, qP, va_K.moved (u := U) (U := U.calling g mk a) (Vm.Alike.refl U.vm) qK, qD⟩, va_recv hK hPc (ci := 2) (q0 := 0) rfl rfl, fun U hU hW => ⟨rfl, by rw [hU], by rw [hU]; exact hPc, va_K.moved hW.alike hK, hDc.weaken (fun _ _ _ _ => trivial)⟩⟩ rfl rfl hl.1 rfl (lv_room (Nat.le_of_ble_eq_true rfl)) dX2_letterAlone_68 ⟨Nat.le_of_ble_eq_true rfl, Nat.le_of_ble_eq_true rfl⟩) hS (fun q _ h => hFc q h) hFc (fun u r_10 t H1 locs ht hvm hw hB hz1 hk1 hSn => ?_)
            obtain ⟨hra, hP1, hD1⟩ := hB
            rw [hra]
            rw [ht] at hP1
            obtain ⟨hPn, hDn⟩ := va_join (wr := [(o4, .inr (10, [.ref a41, .ref a42, .ref a43, .int l4])), (a41, .inl (cI, 256, .inl f41)), (o5, .inr (10, [.ref a51, .ref a52, .ref a53, .int l5])), (a51, .inl (cI, 256, .inl f51))]) (w1 := [(oC, .inr (2, [.ref o4, .ref o5]))]) hP hD [0] [1, 2, 3, 4] rfl rfl (by decide +kernel) (by decide +kernel) hk1 hFc hP1 hD1
            clear hP hD hS hPc hDc hFc hk1 hz1 hvm ht hP1 hD1
            generalize H1 = H at hPn hSn ⊢
            have hP : va_P (dC, dI) vwCl [(o4, .inr (10, [.ref a41, .ref a42, .ref a43, .int l4])), (a41, .inl (cI, 256, .inl f41)), (o5, .inr (10, [.ref a51, .ref a52, .ref a53, .int l5])), (a51, .inl (cI, 256, .inl f51)), (oC, .inr (2, [.ref o4, .ref o5]))] H := hPn
            have hD : va_D A [(o4, .inr (10, [.ref a41, .ref a42, .ref a43, .int l4])), (a41, .inl (cI, 256, .inl f41)), (o5, .inr (10, [.ref a51, .ref a52, .ref a53, .int l5])), (a51, .inl (cI, 256, .inl f51)), (oC, .inr (2, [.ref o4, .ref o5]))] := hDn
            have hS := hSn
            clear hPn hDn hSn
            refine lv_astore_n (lv' := [(3, .ref o4), (0, .ref oC), (1, .int cd), (2, .int v)]) hx hb dX2_letterAlone_71 rfl hl (by decide) rfl (fun ls hl => ?_)
            refine lv_aload_n hx hb dX2_letterAlone_72 rfl (lv_at hl 0 rfl) ?_
            refine lv_ifnonnull (tgt := 80) hx hb dX2_letterAlone_73 (by decide) ?_
            refine lv_aload_n hx hb dX2_letterAlone_80 rfl (lv_at hl 0 rfl) ?_
            refine lv_iload_n hx hb dX2_letterAlone_81 rfl (lv_at hl 3 rfl) ?_
            have hPc := hP.sub (ws' := [(o4, .inr (10, [.ref a41, .ref a42, .ref a43, .int l4])), (a41, .inl (cI, 256, .inl f41))]) [0, 1] rfl
            have hDc := hD.sub (ws' := [(o4, .inr (10, [.ref a41, .ref a42, .ref a43, .int l4])), (a41, .inl (cI, 256, .inl f41))]) [0, 1] (by decide +kernel) rfl
            have hFc := va_free (wc := [(o4, .inr (10, [.ref a41, .ref a42, .ref a43, .int l4])), (a41, .inl (cI, 256, .inl f41))]) hD hS hA [0, 1] rfl
            refine va_calli (va_runV (As := [.int v]) (rest := []) ⟨hx, hb, hml, hown, hts⟩ (m_X10_letterFor l dC dI cI cS H.size o4 a41 a42 a43 l4 f41 v ) (cwV 1 hts gX2_letterAlone_X10_letterFor rfl rfl rfl (by decide +kernel) ⟨Nat.le_of_ble_eq_true rfl, Nat.le_of_ble_eq_true rfl⟩) ⟨fun a U g mk q => by obtain ⟨q0, q1, qP, qK, qD⟩ := q; exact ⟨q0, q1, qP, va_K.moved (u := U) (U := U.calling g mk a) (Vm.Alike.refl U.vm) qK, qD⟩, va_recv hK hPc (ci := 10) (q0 := 0) rfl rfl, fun U hU hW => ⟨rfl, by rw [hU], by rw [hU]; exact hPc, va_K.moved hW.alike hK, hDc.weaken (fun _ _ _ _ => trivial)⟩⟩ rfl rfl hl.1 rfl (lv_room (Nat.le_of_ble_eq_true rfl)) dX2_letterAlone_82 ⟨Nat.le_of_ble_eq_true rfl, Nat.le_of_ble_eq_true rfl⟩) hS (fun q _ h => hFc q h) hFc (fun r_11 u t H1 locs ht hvm hw hB hz1 hk1 hSn => ?_)
            subst hw
            obtain ⟨hP1, hD1, hf11_0⟩ := hB
            rw [ht] at hP1
            obtain ⟨hPn, hDn⟩ := va_join (wr := [(o5, .inr (10, [.ref a51, .ref a52, .ref a53, .int l5])), (a51, .inl (cI, 256, .inl f51)), (oC, .inr (2, [.ref o4, .ref o5]))]) (w1 := [(o4, .inr (10, [.ref a41, .ref a42, .ref a43, .int l4])), (a41, .inl (cI, 256, .inl f41))]) hP hD [0, 1] [2, 3, 4] rfl rfl (by decide +kernel) (by decide +kernel) hk1 hFc hP1 hD1
            clear hP hD hS hPc hDc hFc hk1 hz1 hvm ht hP1 hD1
            generalize H1 = H at hPn hSn ⊢
            have hP : va_P (dC, dI) vwCl [(o5, .inr (10, [.ref a51, .ref a52, .ref a53, .int l5])), (a51, .inl (cI, 256, .inl f51)), (oC, .inr (2, [.ref o4, .ref o5])), (o4, .inr (10, [.ref a41, .ref a42, .ref a43, .int l4])), (a41, .inl (cI, 256, .inl f41))] H := hPn
            have hD : va_D A [(o5, .inr (10, [.ref a51, .ref a52, .ref a53, .int l5])), (a51, .inl (cI, 256, .inl f51)), (oC, .inr (2, [.ref o4, .ref o5])), (o4, .inr (10, [.ref a41, .ref a42, .ref a43, .int l4])), (a41, .inl (cI, 256, .inl f41))] := hDn
            have hS := hSn
            clear hPn hDn hSn
            have hP9 := hP.sub (ws' := [(oC, .inr (2, [.ref o4, .ref o5])), (o4, .inr (10, [.ref a41, .ref a42, .ref a43, .int l4])), (a41, .inl (cI, 256, .inl f41)), (o5, .inr (10, [.ref a51, .ref a52, .ref a53, .int l5])), (a51, .inl (cI, 256, .inl f51))]) [2, 3, 4, 0, 1] rfl
            have hD9 := hD.sub (ws' := [(oC, .inr (2, [.ref o4, .ref o5])), (o4, .inr (10, [.ref a41, .ref a42, .ref a43, .int l4])), (a41, .inl (cI, 256, .inl f41)), (o5, .inr (10, [.ref a51, .ref a52, .ref a53, .int l5])), (a51, .inl (cI, 256, .inl f51))]) [2, 3, 4, 0, 1] (by decide +kernel) rfl
            rw [hQQ]
            exact W.iret (v := r_11) hx hb hr (fun t ht hW => ⟨⟨r_11, r_11, rfl, rfl, ⟨by rw [ht]; exact hP9, hD9, (F_get_f hf11_0 (by omega) (by show v.toInt < 256; omega)).trans (by unfold alF; (repeat (first | rw [if_pos (by omega)] | rw [if_neg (by omega)])))⟩⟩, hS.F ht⟩) hS.2.2 dX2_letterAlone_85
          · skip
            by_cases cs_12 : cd.toInt = 5
            · have hPc := hP.sub (ws' := [(oC, .inr (2, [.ref o4, .ref o5]))]) [0] rfl
              have hDc := hD.sub (ws' := [(oC, .inr (2, [.ref o4, .ref o5]))]) [0] (by decide +kernel) rfl
              have hFc := va_free (wc := [(oC, .inr (2, [.ref o4, .ref o5]))]) hD hS hA [0] rfl
              refine va_callr (va_runV (As := [.int cd]) (rest := []) ⟨hx, hb, hml, hown, hts⟩ (m_X2_toldCode_5 l dC dI cI cS s.heap.size oC o4 o5 cd (by omega)) (cwV 1 hts gX2_letterAlone_X2_toldCode rfl rfl rfl (by decide +kernel) ⟨Nat.le_of_ble_eq_true rfl, Nat.le_of_ble_eq_true rfl⟩) ⟨fun a U g mk q => by obtain ⟨q0, q1, qP, qK, qD⟩ := q; exact ⟨q0, q1, qP, va_K.moved (u := U) (U := U.calling g mk a) (Vm.Alike.refl U.vm) qK, qD⟩, va_recv hK hPc (ci := 2) (q0 := 0) rfl rfl, fun U hU hW => ⟨rfl, by rw [hU], by rw [hU]; exact hPc, va_K.moved hW.alike hK, hDc.weaken (fun _ _ _ _ => trivial)⟩⟩ rfl rfl hl.1 rfl (lv_room (Nat.le_of_ble_eq_true rfl)) dX2_letterAlone_68 ⟨Nat.le_of_ble_eq_true rfl, Nat.le_of_ble_eq_true rfl⟩) hS (fun q _ h => hFc q h) hFc (fun u r_13 t H1 locs ht hvm hw hB hz1 hk1 hSn => ?_)
              obtain ⟨hra, hP1, hD1⟩ := hB
              rw [hra]
              rw [ht] at hP1
              obtain ⟨hPn, hDn⟩ := va_join (wr := [(o4, .inr (10, [.ref a41, .ref a42, .ref a43, .int l4])), (a41, .inl (cI, 256, .inl f41)), (o5, .inr (10, [.ref a51, .ref a52, .ref a53, .int l5])), (a51, .inl (cI, 256, .inl f51))]) (w1 := [(oC, .inr (2, [.ref o4, .ref o5]))]) hP hD [0] [1, 2, 3, 4] rfl rfl (by decide +kernel) (by decide +kernel) hk1 hFc hP1 hD1
              clear hP hD hS hPc hDc hFc hk1 hz1 hvm ht hP1 hD1
              generalize H1 = H at hPn hSn ⊢
              have hP : va_P (dC, dI) vwCl [(o4, .inr (10, [.ref a41, .ref a42, .ref a43, .int l4])), (a41, .inl (cI, 256, .inl f41)), (o5, .inr (10, [.ref a51, .ref a52, .ref a53, .int l5])), (a51, .inl (cI, 256, .inl f51)), (oC, .inr (2, [.ref o4, .ref o5]))] H := hPn
              have hD : va_D A [(o4, .inr (10, [.ref a41, .ref a42, .ref a43, .int l4])), (a41, .inl (cI, 256, .inl f41)), (o5, .inr (10, [.ref a51, .ref a52, .ref a53, .int l5])), (a51, .inl (cI, 256, .inl f51)), (oC, .inr (2, [.ref o4, .ref o5]))] := hDn
              have hS := hSn
              clear hPn hDn hSn
              refine lv_astore_n (lv' := [(3, .ref o5), (0, .ref oC), (1, .int cd), (2, .int v)]) hx hb dX2_letterAlone_71 rfl hl (by decide) rfl (fun ls hl => ?_)
              refine lv_aload_n hx hb dX2_letterAlone_72 rfl (lv_at hl 0 rfl) ?_
              refine lv_ifnonnull (tgt := 80) hx hb dX2_letterAlone_73 (by decide) ?_
              refine lv_aload_n hx hb dX2_letterAlone_80 rfl (lv_at hl 0 rfl) ?_
              refine lv_iload_n hx hb dX2_letterAlone_81 rfl (lv_at hl 3 rfl) ?_
              have hPc := hP.sub (ws' := [(o5, .inr (10, [.ref a51, .ref a52, .ref a53, .int l5])), (a51, .inl (cI, 256, .inl f51))]) [2, 3] rfl
              have hDc := hD.sub (ws' := [(o5, .inr (10, [.ref a51, .ref a52, .ref a53, .int l5])), (a51, .inl (cI, 256, .inl f51))]) [2, 3] (by decide +kernel) rfl
              have hFc := va_free (wc := [(o5, .inr (10, [.ref a51, .ref a52, .ref a53, .int l5])), (a51, .inl (cI, 256, .inl f51))]) hD hS hA [2, 3] rfl
              refine va_calli (va_runV (As := [.int v]) (rest := []) ⟨hx, hb, hml, hown, hts⟩ (m_X10_letterFor l dC dI cI cS H.size o5 a51 a52 a53 l5 f51 v ) (cwV 1 hts gX2_letterAlone_X10_letterFor rfl rfl rfl (by decide +kernel) ⟨Nat.le_of_ble_eq_true rfl, Nat.le_of_ble_eq_true rfl⟩) ⟨fun a U g mk q => by obtain ⟨q0, q1, qP, qK, qD⟩ := q; exact ⟨q0, q1, qP, va_K.moved (u := U) (U := U.calling g mk a) (Vm.Alike.refl U.vm) qK, qD⟩, va_recv hK hPc (ci := 10) (q0 := 0) rfl rfl, fun U hU hW => ⟨rfl, by rw [hU], by rw [hU]; exact hPc, va_K.moved hW.alike hK, hDc.weaken (fun _ _ _ _ => trivial)⟩⟩ rfl rfl hl.1 rfl (lv_room (Nat.le_of_ble_eq_true rfl)) dX2_letterAlone_82 ⟨Nat.le_of_ble_eq_true rfl, Nat.le_of_ble_eq_true rfl⟩) hS (fun q _ h => hFc q h) hFc (fun r_14 u t H1 locs ht hvm hw hB hz1 hk1 hSn => ?_)
              subst hw
              obtain ⟨hP1, hD1, hf14_0⟩ := hB
              rw [ht] at hP1
              obtain ⟨hPn, hDn⟩ := va_join (wr := [(o4, .inr (10, [.ref a41, .ref a42, .ref a43, .int l4])), (a41, .inl (cI, 256, .inl f41)), (oC, .inr (2, [.ref o4, .ref o5]))]) (w1 := [(o5, .inr (10, [.ref a51, .ref a52, .ref a53, .int l5])), (a51, .inl (cI, 256, .inl f51))]) hP hD [2, 3] [0, 1, 4] rfl rfl (by decide +kernel) (by decide +kernel) hk1 hFc hP1 hD1
              clear hP hD hS hPc hDc hFc hk1 hz1 hvm ht hP1 hD1
              generalize H1 = H at hPn hSn ⊢
              have hP : va_P (dC, dI) vwCl [(o4, .inr (10, [.ref a41, .ref a42, .ref a43, .int l4])), (a41, .inl (cI, 256, .inl f41)), (oC, .inr (2, [.ref o4, .ref o5])), (o5, .inr (10, [.ref a51, .ref a52, .ref a53, .int l5])), (a51, .inl (cI, 256, .inl f51))] H := hPn
              have hD : va_D A [(o4, .inr (10, [.ref a41, .ref a42, .ref a43, .int l4])), (a41, .inl (cI, 256, .inl f41)), (oC, .inr (2, [.ref o4, .ref o5])), (o5, .inr (10, [.ref a51, .ref a52, .ref a53, .int l5])), (a51, .inl (cI, 256, .inl f51))] := hDn
              have hS := hSn
              clear hPn hDn hSn
              have hP9 := hP.sub (ws' := [(oC, .inr (2, [.ref o4, .ref o5])), (o4, .inr (10, [.ref a41, .ref a42, .ref a43, .int l4])), (a41, .inl (cI, 256, .inl f41)), (o5, .inr (10, [.ref a51, .ref a52, .ref a53, .int l5])), (a51, .inl (cI, 256, .inl f51))]) [2, 0, 1, 3, 4] rfl
              have hD9 := hD.sub (ws' := [(oC, .inr (2, [.ref o4, .ref o5])), (o4, .inr (10, [.ref a41, .ref a42, .ref a43, .int l4])), (a41, .inl (cI, 256, .inl f41)), (o5, .inr (10, [.ref a51, .ref a52, .ref a53, .int l5])), (a51, .inl (cI, 256, .inl f51))]) [2, 0, 1, 3, 4] (by decide +kernel) rfl
              rw [hQQ]
              exact W.iret (v := r_14) hx hb hr (fun t ht hW => ⟨⟨r_14, r_14, rfl, rfl, ⟨by rw [ht]; exact hP9, hD9, (F_get_f hf14_0 (by omega) (by show v.toInt < 256; omega)).trans (by unfold alF; (repeat (first | rw [if_pos (by omega)] | rw [if_neg (by omega)])))⟩⟩, hS.F ht⟩) hS.2.2 dX2_letterAlone_85
            · skip
              have hPc := hP.sub (ws' := [(oC, .inr (2, [.ref o4, .ref o5]))]) [0] rfl
              have hDc := hD.sub (ws' := [(oC, .inr (2, [.ref o4, .ref o5]))]) [0] (by decide +kernel) rfl
              have hFc := va_free (wc := [(oC, .inr (2, [.ref o4, .ref o5]))]) hD hS hA [0] rfl
              refine va_callq (va_runV (As := [.int cd]) (rest := []) ⟨hx, hb, hml, hown, hts⟩ (m_X2_toldCode_n l dC dI cI cS s.heap.size oC o4 o5 cd (by omega) (by omega)) (cwV 1 hts gX2_letterAlone_X2_toldCode rfl rfl rfl (by decide +kernel) ⟨Nat.le_of_ble_eq_true rfl, Nat.le_of_ble_eq_true rfl⟩) ⟨fun a U g mk q => by obtain ⟨q0, q1, qP, qK, qD⟩ := q; exact ⟨q0, q1, qP, va_K.moved (u := U) (U := U.calling g mk a) (Vm.Alike.refl U.vm) qK, qD⟩, va_recv hK hPc (ci := 2) (q0 := 0) rfl rfl, fun U hU hW => ⟨rfl, by rw [hU], by rw [hU]; exact hPc, va_K.moved hW.alike hK, hDc.weaken (fun _ _ _ _ => trivial)⟩⟩ rfl rfl hl.1 rfl (lv_room (Nat.le_of_ble_eq_true rfl)) dX2_letterAlone_68 ⟨Nat.le_of_ble_eq_true rfl, Nat.le_of_ble_eq_true rfl⟩) hS (fun q _ h => hFc q h) hFc (fun r_15 u t H1 locs ht hvm hw hB hz1 hk1 hSn => ?_)
              obtain ⟨hP1, hD1⟩ := hB
              rw [ht] at hP1
              obtain ⟨hPn, hDn⟩ := va_join (wr := [(o4, .inr (10, [.ref a41, .ref a42, .ref a43, .int l4])), (a41, .inl (cI, 256, .inl f41)), (o5, .inr (10, [.ref a51, .ref a52, .ref a53, .int l5])), (a51, .inl (cI, 256, .inl f51))]) (w1 := [(oC, .inr (2, [.ref o4, .ref o5]))]) hP hD [0] [1, 2, 3, 4] rfl rfl (by decide +kernel) (by decide +kernel) hk1 hFc hP1 hD1
              clear hP hD hS hPc hDc hFc hk1 hz1 hvm ht hP1 hD1
              generalize H1 = H at hPn hSn ⊢
              have hP : va_P (dC, dI) vwCl [(o4, .inr (10, [.ref a41, .ref a42, .ref a43, .int l4])), (a41, .inl (cI, 256, .inl f41)), (o5, .inr (10, [.ref a51, .ref a52, .ref a53, .int l5])), (a51, .inl (cI, 256, .inl f51)), (oC, .inr (2, [.ref o4, .ref o5]))] H := hPn
              have hD : va_D A [(o4, .inr (10, [.ref a41, .ref a42, .ref a43, .int l4])), (a41, .inl (cI, 256, .inl f41)), (o5, .inr (10, [.ref a51, .ref a52, .ref a53, .int l5])), (a51, .inl (cI, 256, .inl f51)), (oC, .inr (2, [.ref o4, .ref o5]))] := hDn
              have hS := hSn
              clear hPn hDn hSn
              obtain rfl := hw
              refine W.eq (g2 := F0 m 71 ls [.null]) rfl ?_
              refine lv_astore_nN (lv' := [(3, .null), (0, .ref oC), (1, .int cd), (2, .int v)]) hx hb dX2_letterAlone_71 rfl hl (by decide) rfl (fun ls hl => ?_)
              refine lv_aload_nN hx hb dX2_letterAlone_72 rfl (lv_at hl 0 rfl) ?_
              refine lv_ifnonnullN hx hb dX2_letterAlone_73 ?_
              refine lv_iconst (v := (-1)) hx hb dX2_letterAlone_76 (by decide) ?_
              refine lv_goto (tgt := 85) hx hb dX2_letterAlone_77 (by decide) ?_
              have hP9 := hP.sub (ws' := [(oC, .inr (2, [.ref o4, .ref o5])), (o4, .inr (10, [.ref a41, .ref a42, .ref a43, .int l4])), (a41, .inl (cI, 256, .inl f41)), (o5, .inr (10, [.ref a51, .ref a52, .ref a53, .int l5])), (a51, .inl (cI, 256, .inl f51))]) [4, 0, 1, 2, 3] rfl
              have hD9 := hD.sub (ws' := [(oC, .inr (2, [.ref o4, .ref o5])), (o4, .inr (10, [.ref a41, .ref a42, .ref a43, .int l4])), (a41, .inl (cI, 256, .inl f41)), (o5, .inr (10, [.ref a51, .ref a52, .ref a53, .int l5])), (a51, .inl (cI, 256, .inl f51))]) [4, 0, 1, 2, 3] (by decide +kernel) rfl
              rw [hQQ]
              exact W.iret (v := (-1)) hx hb hr (fun t ht hW => ⟨⟨(-1), (-1), rfl, rfl, ⟨by rw [ht]; exact hP9, hD9, by unfold alF; (repeat (first | rw [if_pos (by omega)] | rw [if_neg (by omega)]))⟩⟩, hS.F ht⟩) hS.2.2 dX2_letterAlone_85

end
