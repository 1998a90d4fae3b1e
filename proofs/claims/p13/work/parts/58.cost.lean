set_option maxHeartbeats 40000000 in
set_option maxRecDepth 100000 in
theorem f_X3_pairOf (l : Launch) (dC : Nat → ClassId) (dI : Nat → Nat → Nat) (cI cS : ClassId) (sz : Nat) (x : Int32) (y : Int32)  : Met l yX3_pairOf wsX3_pairOf ({ frames := 0, cells := 0, slots := 0, locals := 0 } : Room) (va_Pc [.int x, .int y] (fun U => U.heap.size = sz ∧ va_P (dC, dI) vwCl [] U.heap ∧ va_K (dC, dI) vwCl [(cI, .int), (cS, .short)] U ∧ va_D (fun _ => True) [])) (va_Qi (fun (r : Int32) (u : Int32) => r = u) (fun (r : Int32) t => va_P (dC, dI) vwCl [] t.heap ∧ va_D (va_A [] sz) [] ∧ (r = pk2 x y)) (va_A [] sz)) 0 0 (va_A [] sz) := by
  refine Met.ofW (cc := cX3_pairOf) (maxL := 2) (ret := (some .int)) (by decide) rfl ?_
  intro p e s m args below meth c s₁ B hml hv
  obtain ⟨rfl, hsz, hP, hK, hD0⟩ := hv
  have hx := B.exec
  have hb := B.bytes
  have hr := B.returns
  have hts := atoms_spec (ws := wsX3_pairOf) B.pre
  have hown : s.vm.findClass RX3 = some m.cls := findClass_of_methodNamed B.named
  have hlocks := B.notSynchronized
  subst hsz
  have hD := hD0.self (sz := s.heap.size)
  generalize hAe : va_A [] s.heap.size = A at hD ⊢
  have hA : ∀ q : Nat, s.heap.size ≤ q → A q := fun q h => by rw [← hAe]; exact Or.inr h
  have hS : va_S A s.heap s.heap [] := va_S.rf
  have hP : va_P (dC, dI) vwCl [] s.heap := hP
  have hl := lv_entry ([.int x, .int y]) (n := 2) (Nat.le_of_ble_eq_true rfl)
  rw [lg_entry_eq]
  generalize (lg_sl ([.int x, .int y]) ++ List.replicate (2 - (lg_sl ([.int x, .int y])).length) Slot.unset).toArray = ls at hl ⊢
  have hl : lv_has ls 2 [(0, .int x), (1, .int y)] := hl
  obtain ⟨QQ, hQQ⟩ : ∃ QQ : Array Value → State → Outcome → State → Prop, QQ = va_Qi (fun (r : Int32) (u : Int32) => r = u) (fun (r : Int32) t => va_P (dC, dI) vwCl [] t.heap ∧ va_D A [] ∧ (r = pk2 x y)) A := ⟨_, rfl⟩
  rw [← hQQ]
  refine lv_iload_n hx hb dX3_pairOf_0 rfl (lv_at hl 0 rfl) ?_
  refine lv_bipush (v := 16) hx hb dX3_pairOf_1 (by decide) ?_
  refine lv_ishl hx hb dX3_pairOf_3 ?_
  refine lv_topi (fun x_1 ex_1 => ?_)
  refine lv_iload_n hx hb dX3_pairOf_4 rfl (lv_at hl 1 rfl) ?_
  refine lv_ior hx hb dX3_pairOf_5 ?_
  refine lv_topi (fun x_2 ex_2 => ?_)
  have hP9 := hP.sub (ws' := []) [] rfl
  have hD9 := hD.sub (ws' := []) [] (by decide) rfl
  rw [hQQ]
  exact W.iret (v := x_2) hx hb hr (fun t ht hW => ⟨⟨x_2, x_2, rfl, rfl, ⟨by rw [ht]; exact hP9, hD9, by rw [ex_2, ex_1]; rfl⟩⟩, hS.F ht⟩) hS.2.2 dX3_pairOf_6

set_option maxHeartbeats 40000000 in
set_option maxRecDepth 100000 in
theorem f_X3_placeFor (l : Launch) (dC : Nat → ClassId) (dI : Nat → Nat → Nat) (cI cS : ClassId) (sz : Nat) (oK : Nat) (k1 : Nat) (k2 : Nat) (lK : Int32) (fK1 : Nat → Int32) (fK2 : Nat → Int32) (x : Int32) (y : Int32) (g_lK : 0 ≤ lK.toInt ∧ lK.toInt ≤ 300) : Met l yX3_placeFor wsX3_placeFor ({ frames := 1, cells := 0, slots := 0, locals := 21 } : Room) (va_Pc [.ref oK, .int x, .int y] (fun U => U.heap.size = sz ∧ va_P (dC, dI) vwCl [(oK, .inr (3, [.ref k1, .ref k2, .int lK])), (k1, .inl (cI, 1024, .inl fK1)), (k2, .inl (cI, 1024, .inl fK2))] U.heap ∧ va_K (dC, dI) vwCl [(cI, .int), (cS, .short)] U ∧ va_D (fun _ => True) [(oK, .inr (3, [.ref k1, .ref k2, .int lK])), (k1, .inl (cI, 1024, .inl fK1)), (k2, .inl (cI, 1024, .inl fK2))])) (va_Qi (fun (r : Int32) (u : Int32) => r = u) (fun (r : Int32) t => va_P (dC, dI) vwCl [(oK, .inr (3, [.ref k1, .ref k2, .int lK])), (k1, .inl (cI, 1024, .inl fK1)), (k2, .inl (cI, 1024, .inl fK2))] t.heap ∧ va_D (va_A [(oK, .inr (3, [.ref k1, .ref k2, .int lK])), (k1, .inl (cI, 1024, .inl fK1)), (k2, .inl (cI, 1024, .inl fK2))] sz) [(oK, .inr (3, [.ref k1, .ref k2, .int lK])), (k1, .inl (cI, 1024, .inl fK1)), (k2, .inl (cI, 1024, .inl fK2))] ∧ (-1 ≤ r.toInt ∧ r.toInt ≤ 1023) ∧ (F_pf 1024 1023 (hsK (pk2 x y)) (pk2 x y) r fK1 fK2)) (va_A [(oK, .inr (3, [.ref k1, .ref k2, .int lK])), (k1, .inl (cI, 1024, .inl fK1)), (k2, .inl (cI, 1024, .inl fK2))] sz)) 0 0 (va_A [(oK, .inr (3, [.ref k1, .ref k2, .int lK])), (k1, .inl (cI, 1024, .inl fK1)), (k2, .inl (cI, 1024, .inl fK2))] sz) := by
  refine Met.ofW (cc := cX3_placeFor) (maxL := 7) (ret := (some .int)) (by decide) rfl ?_
  intro p e s m args below meth c s₁ B hml hv
  obtain ⟨rfl, hsz, hP, hK, hD0⟩ := hv
  have hx := B.exec
  have hb := B.bytes
  have hr := B.returns
  have hts := atoms_spec (ws := wsX3_placeFor) B.pre
  have hown : s.vm.findClass RX3 = some m.cls := findClass_of_methodNamed B.named
  have hlocks := B.notSynchronized
  have in_X3 : ∀ w ∈ wsX30, w ∈ wsX3_placeFor := fun _ h => List.mem_cons_of_mem _ (List.mem_append_right _ (h))
  subst hsz
  have hD := hD0.self (sz := s.heap.size)
  generalize hAe : va_A [(oK, .inr (3, [.ref k1, .ref k2, .int lK])), (k1, .inl (cI, 1024, .inl fK1)), (k2, .inl (cI, 1024, .inl fK2))] s.heap.size = A at hD ⊢
  have hA : ∀ q : Nat, s.heap.size ≤ q → A q := fun q h => by rw [← hAe]; exact Or.inr h
  have hS : va_S A s.heap s.heap [] := va_S.rf
  have hP : va_P (dC, dI) vwCl [(oK, .inr (3, [.ref k1, .ref k2, .int lK])), (k1, .inl (cI, 1024, .inl fK1)), (k2, .inl (cI, 1024, .inl fK2))] s.heap := hP
  have hl := lv_entry ([.ref oK, .int x, .int y]) (n := 7) (Nat.le_of_ble_eq_true rfl)
  rw [lg_entry_eq]
  generalize (lg_sl ([.ref oK, .int x, .int y]) ++ List.replicate (7 - (lg_sl ([.ref oK, .int x, .int y])).length) Slot.unset).toArray = ls at hl ⊢
  have hl : lv_has ls 7 [(0, .ref oK), (1, .int x), (2, .int y)] := hl
  obtain ⟨QQ, hQQ⟩ : ∃ QQ : Array Value → State → Outcome → State → Prop, QQ = va_Qi (fun (r : Int32) (u : Int32) => r = u) (fun (r : Int32) t => va_P (dC, dI) vwCl [(oK, .inr (3, [.ref k1, .ref k2, .int lK])), (k1, .inl (cI, 1024, .inl fK1)), (k2, .inl (cI, 1024, .inl fK2))] t.heap ∧ va_D A [(oK, .inr (3, [.ref k1, .ref k2, .int lK])), (k1, .inl (cI, 1024, .inl fK1)), (k2, .inl (cI, 1024, .inl fK2))] ∧ (-1 ≤ r.toInt ∧ r.toInt ≤ 1023) ∧ (F_pf 1024 1023 (hsK (pk2 x y)) (pk2 x y) r fK1 fK2)) A := ⟨_, rfl⟩
  rw [← hQQ]
  refine lv_iload_n hx hb dX3_placeFor_0 rfl (lv_at hl 1 rfl) ?_
  refine lv_iload_n hx hb dX3_placeFor_1 rfl (lv_at hl 2 rfl) ?_
  have hPc := hP.sub (ws' := []) [] rfl
  have hDc := hD.sub (ws' := []) [] (by decide) rfl
  have hFc := va_free (wc := []) hD hS hA [] rfl
  refine va_calli (va_runS (As := [.int x, .int y]) (rest := []) ⟨hx, hb, hml, hown, hts⟩ (f_X3_pairOf l dC dI cI cS s.heap.size x y ) (va_cwS 2 hts gX3_placeFor_X3_pairOf rfl rfl rfl (by decide +kernel) ⟨Nat.le_of_ble_eq_true rfl, Nat.le_of_ble_eq_true rfl⟩) ⟨fun a U g mk q => by obtain ⟨q0, q1, qP, qK, qD⟩ := q; exact ⟨q0, q1, qP, va_K.moved (u := U) (U := U.calling g mk a) (Vm.Alike.refl U.vm) qK, qD⟩, fun U hU hW => ⟨rfl, by rw [hU], by rw [hU]; exact hPc, va_K.moved hW.alike hK, hDc.weaken (fun _ _ _ _ => trivial)⟩⟩ rfl rfl hl.1 rfl (lv_room (Nat.le_of_ble_eq_true rfl)) dX3_placeFor_2 ⟨Nat.le_of_ble_eq_true rfl, Nat.le_of_ble_eq_true rfl⟩) hS (fun q _ h => hFc q h) hFc (fun r_1 u t H1 locs ht hvm hw hB hz1 hk1 hS => ?_)
  subst hw
  obtain ⟨hP1, hD1, hf1_0⟩ := hB
  rw [ht] at hP1
  obtain ⟨hP, hD⟩ := va_join (wr := [(oK, .inr (3, [.ref k1, .ref k2, .int lK])), (k1, .inl (cI, 1024, .inl fK1)), (k2, .inl (cI, 1024, .inl fK2))]) (w1 := []) hP hD [] [0, 1, 2] rfl rfl (by decide) (by decide) hk1 hFc hP1 hD1
  generalize H1 = H at hP hS ⊢
  have hP : va_P (dC, dI) vwCl [(oK, .inr (3, [.ref k1, .ref k2, .int lK])), (k1, .inl (cI, 1024, .inl fK1)), (k2, .inl (cI, 1024, .inl fK2))] H := hP
  have hD : va_D A [(oK, .inr (3, [.ref k1, .ref k2, .int lK])), (k1, .inl (cI, 1024, .inl fK1)), (k2, .inl (cI, 1024, .inl fK2))] := hD
  rw [hf1_0]
  refine lv_istore_n (lv' := [(3, .int (pk2 x y)), (0, .ref oK), (1, .int x), (2, .int y)]) hx hb dX3_placeFor_5 rfl hl (by decide) rfl (fun ls hl => ?_)
  refine lv_iload_n hx hb dX3_placeFor_6 rfl (lv_at hl 0 rfl) ?_
  refine lv_ldc hx hb hown (hts (.constant RX3 53 (-1640531535)) (List.mem_of_getElem? (i := 1) rfl)) dX3_placeFor_7 ?_
  refine lv_imul hx hb dX3_placeFor_9 ?_
  refine lv_topi (fun x_2 ex_2 => ?_)
  have rv2_0 := v_rng (pk2 x y)
  refine lv_bipush (v := 22) hx hb dX3_placeFor_10 (by decide) ?_
  obtain ⟨x_3, ex_3⟩ : ∃ v : Int32, v = ((x_2 : Int32).toUInt32 >>> ((22 : Int32).toUInt32 &&& Int32.toUInt32 31)).toInt32 := ⟨_, rfl⟩
  refine lv_iushr (v := x_3) hx hb dX3_placeFor_12 ex_3.symm ?_
  have tx_3 : 0 ≤ x_3.toInt ∧ x_3.toInt < 1024 := v_ushr 22 ex_3 (by decide) (by decide) (by decide)
  refine lv_istore (lv' := [(4, .int x_3), (3, .int (pk2 x y)), (0, .ref oK), (1, .int x), (2, .int y)]) hx hb dX3_placeFor_13 hl (by decide) rfl (fun ls hl => ?_)
  refine lv_iconst (v := 0) hx hb dX3_placeFor_15 (by decide) ?_
  refine lv_istore (lv' := [(5, .int 0), (4, .int x_3), (3, .int (pk2 x y)), (0, .ref oK), (1, .int x), (2, .int y)]) hx hb dX3_placeFor_16 hl (by decide) rfl (fun ls hl => ?_)
  have LOOP_18 : ∀ (k_18 : Nat) (k : Int32) (H : Heap) (locs : List Loc) (ls : Array Slot), (1024 - k.toInt : Int).toNat < k_18 → (0 ≤ k.toInt ∧ k.toInt ≤ 1024) → (∀ q : Int32, 0 ≤ q.toInt → q.toInt < k.toInt → ¬ fK2 (slI 1023 x_3 q) = -1 ∧ ¬ fK1 (slI 1023 x_3 q) = pk2 x y) → va_P (dC, dI) vwCl [(oK, .inr (3, [.ref k1, .ref k2, .int lK])), (k1, .inl (cI, 1024, .inl fK1)), (k2, .inl (cI, 1024, .inl fK2))] H → va_D A [(oK, .inr (3, [.ref k1, .ref k2, .int lK])), (k1, .inl (cI, 1024, .inl fK1)), (k2, .inl (cI, 1024, .inl fK2))] → va_S A s.heap H locs → lv_has ls 7 [(5, .int k), (4, .int x_3), (3, .int (pk2 x y)), (0, .ref oK), (1, .int x), (2, .int y)] → W p l e (headSpec wsX3_placeFor ({ frames := 1, cells := 0, slots := 0, locals := 21 } : Room)).room s m ([.ref oK, .int x, .int y] : List Value).toArray below meth c H locs 0 0 (MQ below QQ ([.ref oK, .int x, .int y] : List Value).toArray s 0 0 A) (F0 m 18 ls []) := by
    intro k_18
    induction k_18 with
    | zero =>
      intro k H locs ls hm_18 g_k hq hP hD hS hl
      exact absurd hm_18 (Nat.not_lt_zero _)
    | succ k_18 ih_18 =>
      intro k H locs ls hm_18 g_k hq hP hD hS hl
      refine lv_iload hx hb dX3_placeFor_18 (lv_at hl 0 rfl) ?_
      refine lv_sipush (v := 1024) hx hb dX3_placeFor_20 (by decide) ?_
      refine lv_icmp_ge (tgt := 68) hx hb dX3_placeFor_23 (by decide) (fun c_4 => ?_) (fun c_4 => ?_)
      · have tc_4 : 1024 ≤ k.toInt := v_le c_4
        refine lv_iconst (v := (-1)) hx hb dX3_placeFor_68 (by decide) ?_
        have hP9 := hP.sub (ws' := [(oK, .inr (3, [.ref k1, .ref k2, .int lK])), (k1, .inl (cI, 1024, .inl fK1)), (k2, .inl (cI, 1024, .inl fK2))]) [0, 1, 2] rfl
        have hD9 := hD.sub (ws' := [(oK, .inr (3, [.ref k1, .ref k2, .int lK])), (k1, .inl (cI, 1024, .inl fK1)), (k2, .inl (cI, 1024, .inl fK2))]) [0, 1, 2] (by decide) rfl
        rw [hQQ]
        exact W.iret (v := (-1)) hx hb hr (fun t ht hW => ⟨⟨(-1), (-1), rfl, rfl, ⟨by rw [ht]; exact hP9, hD9, by decide, F_pf_eq (Or.inl ⟨rfl, fun q h1 h2 => hq q h1 (by omega)⟩) (by rw [ex_3, ex_2]; rfl)⟩⟩, hS.F ht⟩) hS.2.2 dX3_placeFor_69
      · have tc_4 : k.toInt < 1024 := v_nle c_4
        refine lv_iload hx hb dX3_placeFor_26 (lv_at hl 1 rfl) ?_
        refine lv_iload hx hb dX3_placeFor_28 (lv_at hl 0 rfl) ?_
        refine lv_iadd hx hb dX3_placeFor_30 ?_
        refine lv_topi (fun x_5 ex_5 => ?_)
        have tx_5 : x_5.toInt = x_3.toInt + k.toInt := v_add ex_5 (by show -2147483648 ≤ x_3.toInt + k.toInt; omega) (by show x_3.toInt + k.toInt < 2147483648; omega)
        refine lv_sipush (v := 1023) hx hb dX3_placeFor_31 (by decide) ?_
        refine lv_iand hx hb dX3_placeFor_34 ?_
        refine lv_topi (fun x_6 ex_6 => ?_)
        have tx_6 : 0 ≤ x_6.toInt ∧ x_6.toInt < 1024 := v_and 10 ex_6 (by decide) (by decide)
        refine lv_istore (lv' := [(6, .int x_6), (5, .int k), (4, .int x_3), (3, .int (pk2 x y)), (0, .ref oK), (1, .int x), (2, .int y)]) hx hb dX3_placeFor_35 hl (by decide) rfl (fun ls hl => ?_)
        refine lv_aload_n hx hb dX3_placeFor_37 rfl (lv_at hl 4 rfl) ?_
        refine va_get (D := (dC, dI)) (ci := 3) (v := .ref k2) (C := RX3) (T := TX3) (N := 3) hx hb hts in_X3 hown hK hP 0 rfl rfl 1 (by decide) (hts (.fieldLink RX3 15 "TextMender$Costs" "value" "[I") (List.mem_of_getElem? (i := 2) rfl)) (fun _ h9 => h9) rfl dX3_placeFor_38 ?_
        refine lv_iload hx hb dX3_placeFor_41 (lv_at hl 0 rfl) ?_
        refine va_iald hx hb hK hP 2 0 rfl rfl (v_in (by omega)) dX3_placeFor_43 ?_
        refine lv_topi (fun x_7 ex_7 => ?_)
        refine lv_iconst (v := (-1)) hx hb dX3_placeFor_44 (by decide) ?_
        refine lv_icmp_eq (tgt := 59) hx hb dX3_placeFor_45 (by decide) (fun c_8 => ?_) (fun c_8 => ?_)
        · have tc_8 : x_7.toInt = (-1) := v_eq c_8
          refine lv_iload hx hb dX3_placeFor_59 (lv_at hl 0 rfl) ?_
          have hP9 := hP.sub (ws' := [(oK, .inr (3, [.ref k1, .ref k2, .int lK])), (k1, .inl (cI, 1024, .inl fK1)), (k2, .inl (cI, 1024, .inl fK2))]) [0, 1, 2] rfl
          have hD9 := hD.sub (ws' := [(oK, .inr (3, [.ref k1, .ref k2, .int lK])), (k1, .inl (cI, 1024, .inl fK1)), (k2, .inl (cI, 1024, .inl fK2))]) [0, 1, 2] (by decide) rfl
          rw [hQQ]
          exact W.iret (v := x_6) hx hb hr (fun t ht hW => ⟨⟨x_6, x_6, rfl, rfl, ⟨by rw [ht]; exact hP9, hD9, by omega, F_pf_eq (Or.inr ⟨by omega, way_here hq ex_5 ex_6 (Or.inl (by rw [← ex_7]; exact c_8)) (by omega) (by omega)⟩) (by rw [ex_3, ex_2]; rfl)⟩⟩, hS.F ht⟩) hS.2.2 dX3_placeFor_61
        · have tc_8 : ¬ x_7.toInt = (-1) := v_ne c_8
          refine lv_aload_n hx hb dX3_placeFor_48 rfl (lv_at hl 4 rfl) ?_
          refine va_get (D := (dC, dI)) (ci := 3) (v := .ref k1) (C := RX3) (T := TX3) (N := 3) hx hb hts in_X3 hown hK hP 0 rfl rfl 0 (by decide) (hts (.fieldLink RX3 11 "TextMender$Costs" "pair" "[I") (List.mem_of_getElem? (i := 3) rfl)) (fun _ h9 => h9) rfl dX3_placeFor_49 ?_
          refine lv_iload hx hb dX3_placeFor_52 (lv_at hl 0 rfl) ?_
          refine va_iald hx hb hK hP 1 0 rfl rfl (v_in (by omega)) dX3_placeFor_54 ?_
          refine lv_topi (fun x_9 ex_9 => ?_)
          refine lv_iload_n hx hb dX3_placeFor_55 rfl (lv_at hl 3 rfl) ?_
          refine lv_icmp_ne (tgt := 62) hx hb dX3_placeFor_56 (by decide) (fun c_10 => ?_) (fun c_10 => ?_)
          · have tc_10 : ¬ x_9.toInt = (pk2 x y).toInt := v_ne c_10
            have rw10_0 := v_rng x_9
            obtain ⟨x_11, ex_11⟩ : ∃ y : Int32, y = k + 1 := ⟨_, rfl⟩
            have tx_11 : x_11.toInt = k.toInt + 1 := v_add ex_11 (by show -2147483648 ≤ k.toInt + 1; omega) (by show k.toInt + 1 < 2147483648; omega)
            refine lv_iinc (v := x_11) (lv' := [(5, .int x_11), (6, .int x_6), (4, .int x_3), (3, .int (pk2 x y)), (0, .ref oK), (1, .int x), (2, .int y)]) hx hb dX3_placeFor_62 hl (k := 1) rfl (by rw [ex_11]; rfl) (by decide) rfl (fun ls hl => ?_)
            refine lv_goto (tgt := 18) hx hb dX3_placeFor_65 (by decide) ?_
            exact ih_18 x_11 _ _ _ (by have hm9 := hm_18; show ((1024 - x_11.toInt : Int)).toNat < k_18; omega) (by show 0 ≤ x_11.toInt ∧ x_11.toInt ≤ 1024; omega) (way_step hq ex_5 ex_6 ex_7 ex_9 c_8 c_10 (by omega)) hP hD hS (lv_sub hl [0, 2, 3, 4, 5, 6] rfl)
          · have tc_10 : x_9.toInt = (pk2 x y).toInt := v_eq c_10
            have rw10_0 := v_rng x_9
            refine lv_iload hx hb dX3_placeFor_59 (lv_at hl 0 rfl) ?_
            have hP9 := hP.sub (ws' := [(oK, .inr (3, [.ref k1, .ref k2, .int lK])), (k1, .inl (cI, 1024, .inl fK1)), (k2, .inl (cI, 1024, .inl fK2))]) [0, 1, 2] rfl
            have hD9 := hD.sub (ws' := [(oK, .inr (3, [.ref k1, .ref k2, .int lK])), (k1, .inl (cI, 1024, .inl fK1)), (k2, .inl (cI, 1024, .inl fK2))]) [0, 1, 2] (by decide) rfl
            rw [hQQ]
            exact W.iret (v := x_6) hx hb hr (fun t ht hW => ⟨⟨x_6, x_6, rfl, rfl, ⟨by rw [ht]; exact hP9, hD9, by omega, F_pf_eq (Or.inr ⟨by omega, way_here hq ex_5 ex_6 (Or.inr (by rw [← ex_9]; exact c_10)) (by omega) (by omega)⟩) (by rw [ex_3, ex_2]; rfl)⟩⟩, hS.F ht⟩) hS.2.2 dX3_placeFor_61
  exact LOOP_18 _ 0 _ _ _ (Nat.lt_succ_self _) (by decide) (fun q h1 h2 => absurd h2 (by show ¬ q.toInt < 0; omega)) hP hD hS (lv_sub hl [0, 1, 2, 3, 4, 5] rfl)

theorem hsK_r (w : Int32) : 0 ≤ (hsK w).toInt ∧ (hsK w).toInt < 1024 := v_ushr 22 rfl (by decide) (by decide) (by decide)
theorem pk2_nat {X Y : Nat} (hX : X < 65536) (hY : Y < 65536) : (pk2 (nI X) (nI Y)).toBitVec.toNat = X * 65536 + Y := by
  unfold pk2
  rw [Int32.toBitVec_or, BitVec.toNat_or, pk_shl _ _ 16 (by decide), pk_tn (by omega), pk_tn (by omega), Nat.mod_eq_of_lt (by omega)]
  have h := Nat.shiftLeft_add_eq_or_of_lt (b := Y) (i := 16) (by omega) X
  rw [Nat.shiftLeft_eq] at h
  rw [← h]
theorem let_nat {x : Int32} (h : 0 ≤ x.toInt ∧ x.toInt ≤ 65535) : ∃ X : Nat, X < 65536 ∧ x = nI X := by
  obtain ⟨j, hj, e⟩ := nI_of (v_nneg h.1)
  rw [e, nI_toInt hj] at h
  exact ⟨j, by omega, e⟩
theorem pk2_inj {x y x' y' : Int32} (hx : 0 ≤ x.toInt ∧ x.toInt ≤ 65535) (hy : 0 ≤ y.toInt ∧ y.toInt ≤ 65535) (hx' : 0 ≤ x'.toInt ∧ x'.toInt ≤ 65535) (hy' : 0 ≤ y'.toInt ∧ y'.toInt ≤ 65535) (h : pk2 x y = pk2 x' y') : x = x' ∧ y = y' := by
  obtain ⟨X, hX, rfl⟩ := let_nat hx
  obtain ⟨Y, hY, rfl⟩ := let_nat hy
  obtain ⟨X', hX', rfl⟩ := let_nat hx'
  obtain ⟨Y', hY', rfl⟩ := let_nat hy'
  have e := congrArg (fun z : Int32 => z.toBitVec.toNat) h
  simp only [pk2_nat hX hY, pk2_nat hX' hY'] at e
  have e1 : X = X' := by omega
  have e2 : Y = Y' := by omega
  rw [e1, e2]; exact ⟨rfl, rfl⟩
def tK (N : Int) (K V : Nat → Int32) (w : Int32) : Prop := ∃ s : Nat, (s : Int) < N ∧ K s = w ∧ ¬ V s = -1
theorem tK_no {N : Int} {M r w : Int32} {hs : Int32 → Int32} {K V : Nat → Int32} (hT : HT N M hs K V) (h : F_pl N M (hs w) w r K V) (hf : V r.toNatClampNeg = -1) : ¬ tK N K V w := by
  rintro ⟨s, h1, h2, h3⟩
  exact pl_free (v := V s) hT h hf ⟨s, h1, h2, rfl, h3⟩
/-- there is always a place -/
theorem pf_found {l w r : Int32} {K V : Nat → Int32} (h : F_pf 1024 1023 (hsK w) w r K V) (ho : (occ V 1024 : Int) ≤ l.toInt) (hl : l.toInt ≤ 300) : 0 ≤ r.toInt ∧ F_pl 1024 1023 (hsK w) w r K V := by
  rcases h with ⟨_, h⟩ | h
  · exfalso
    obtain ⟨s, h1, h2⟩ := occ_free V 1024 (by omega)
    obtain ⟨q, q0, q1, q2⟩ := way_all (M := 1023) (st := hsK w) (s := s) 10 (by decide) (by decide) (hsK_r w) h1
    exact (h q q0 q1).1 (by rw [q2]; exact h2)
  · exact h
def okv (v : Int32) : Prop := 0 ≤ v.toInt ∧ v.toInt ≤ 200
/-- what tell does -/
def F_tk (l l' r v w : Int32) (K K' V V' : Nat → Int32) : Prop := (r = 1 ∧ okv v ∧ ((tK 1024 K V w ∧ l'.toInt = l.toInt ∧ K' = K ∧ ∃ s : Nat, ¬ V s = -1 ∧ V' = upd V s v ∧ (s : Int) < 1024 ∧ K s = w) ∨ (¬ tK 1024 K V w ∧ l.toInt < 300 ∧ l'.toInt = l.toInt + 1 ∧ ∃ q : Int32, 0 ≤ q.toInt ∧ q.toInt < 1024 ∧ F_pl 1024 1023 (hsK w) w q K V ∧ V q.toNatClampNeg = -1 ∧ K' = upd K q.toNatClampNeg w ∧ V' = upd V q.toNatClampNeg v))) ∨ (r = 0 ∧ (¬ okv v ∨ (¬ tK 1024 K V w ∧ 300 ≤ l.toInt)) ∧ l' = l ∧ K' = K ∧ V' = V)
theorem okv_ne {v : Int32} (h : okv v) : ¬ v = -1 := fun e => by
  have h1 := h.1
  rw [e] at h1
  exact absurd h1 (by decide)
theorem F_tk_inv {l l' r v w : Int32} {K K' V V' : Nat → Int32} (hT : HT 1024 1023 hsK K V) (ho : (occ V 1024 : Int) ≤ l.toInt) (h : F_tk l l' r v w K K' V V') : HT 1024 1023 hsK K' V' ∧ (occ V' 1024 : Int) ≤ l'.toInt ∧ ∀ w', tK 1024 K' V' w' ↔ (tK 1024 K V w' ∨ (r = 1 ∧ w' = w)) := by
  rcases h with ⟨e, hv, ⟨t1, t2, t3, s, s1, s2, -⟩ | ⟨t1, t2, t3, q, q0, q1, q2, q3, q4, q5⟩⟩ | ⟨e, -, t1, t2, t3⟩
  · refine ⟨by rw [t3]; exact HT_set hT s1 (okv_ne hv) s2, by rw [s2, occ_same s1 (okv_ne hv)]; omega, fun w' => ?_⟩
    have sm : ∀ z, ¬ V z = -1 ↔ ¬ V' z = -1 := by
      intro z
      by_cases y : z = s
      · rw [s2, y, pk_us]; exact ⟨fun _ => okv_ne hv, fun _ => s1⟩
      · rw [s2, pk_un y]
    rw [t3]
    constructor
    · rintro ⟨z, z1, z2, z3⟩
      exact Or.inl ⟨z, z1, z2, (sm z).mpr z3⟩
    · rintro (⟨z, z1, z2, z3⟩ | ⟨_, e2⟩)
      · exact ⟨z, z1, z2, (sm z).mp z3⟩
      · rw [e2]
        obtain ⟨z, z1, z2, z3⟩ := t1
        exact ⟨z, z1, z2, (sm z).mp z3⟩
  · have a := v_clamp q0
    refine ⟨HT_new hT q2 q3 (okv_ne hv) q4 q5, ?_, fun w' => ?_⟩
    · have := occ_upd V q.toNatClampNeg v 1024
      rw [q5]; omega
    · constructor
      · rintro ⟨z, z1, z2, z3⟩
        by_cases y : z = q.toNatClampNeg
        · refine Or.inr ⟨e, ?_⟩
          rw [← z2, q4, y, pk_us]
        · rw [q4, pk_un y] at z2
          rw [q5, pk_un y] at z3
          exact Or.inl ⟨z, z1, z2, z3⟩
      · rintro (⟨z, z1, z2, z3⟩ | ⟨_, e2⟩)
        · have y : z ≠ q.toNatClampNeg := fun y => z3 (by rw [y]; exact q3)
          exact ⟨z, z1, by rw [q4, pk_un y]; exact z2, by rw [q5, pk_un y]; exact z3⟩
        · exact ⟨q.toNatClampNeg, by omega, by rw [q4, pk_us, e2], by rw [q5, pk_us]; exact okv_ne hv⟩
  · refine ⟨by rw [t2, t3]; exact hT, by rw [t1, t3]; exact ho, fun w' => ?_⟩
    rw [t2, t3]
    constructor
    · exact Or.inl
    · rintro (z | ⟨z, _⟩)
      · exact z
      · rw [e] at z; exact absurd z (by decide)

set_option maxHeartbeats 40000000 in
set_option maxRecDepth 100000 in
theorem f_X3_tell (l : Launch) (dC : Nat → ClassId) (dI : Nat → Nat → Nat) (cI cS : ClassId) (sz : Nat) (oK : Nat) (k1 : Nat) (k2 : Nat) (lK : Int32) (fK1 : Nat → Int32) (fK2 : Nat → Int32) (x : Int32) (y : Int32) (v : Int32) (g_lK : 0 ≤ lK.toInt ∧ lK.toInt ≤ 300) (hT : HT 1024 1023 hsK fK1 fK2) (ho : (occ fK2 1024 : Int) ≤ lK.toInt) : Met l yX3_tell wsX3_tell ({ frames := 2, cells := 0, slots := 0, locals := 47 } : Room) (va_Pc [.ref oK, .int x, .int y, .int v] (fun U => U.heap.size = sz ∧ va_P (dC, dI) vwCl [(oK, .inr (3, [.ref k1, .ref k2, .int lK])), (k1, .inl (cI, 1024, .inl fK1)), (k2, .inl (cI, 1024, .inl fK2))] U.heap ∧ va_K (dC, dI) vwCl [(cI, .int), (cS, .short)] U ∧ va_D (fun _ => True) [(oK, .inr (3, [.ref k1, .ref k2, .int lK])), (k1, .inl (cI, 1024, .inl fK1)), (k2, .inl (cI, 1024, .inl fK2))])) (va_Qi (fun (r : Int32) (u : Int32) => r = u) (fun (r : Int32) t => ∃ (lK' : Int32) (fK1' : Nat → Int32) (fK2' : Nat → Int32), va_P (dC, dI) vwCl [(oK, .inr (3, [.ref k1, .ref k2, .int lK'])), (k1, .inl (cI, 1024, .inl fK1')), (k2, .inl (cI, 1024, .inl fK2'))] t.heap ∧ va_D (va_A [(oK, .inr (3, [.ref k1, .ref k2, .int lK])), (k1, .inl (cI, 1024, .inl fK1)), (k2, .inl (cI, 1024, .inl fK2))] sz) [(oK, .inr (3, [.ref k1, .ref k2, .int lK'])), (k1, .inl (cI, 1024, .inl fK1')), (k2, .inl (cI, 1024, .inl fK2'))] ∧ (0 ≤ lK'.toInt ∧ lK'.toInt ≤ 300) ∧ (0 ≤ r.toInt ∧ r.toInt ≤ 1) ∧ (F_tk lK lK' r v (pk2 x y) fK1 fK1' fK2 fK2')) (va_A [(oK, .inr (3, [.ref k1, .ref k2, .int lK])), (k1, .inl (cI, 1024, .inl fK1)), (k2, .inl (cI, 1024, .inl fK2))] sz)) 0 0 (va_A [(oK, .inr (3, [.ref k1, .ref k2, .int lK])), (k1, .inl (cI, 1024, .inl fK1)), (k2, .inl (cI, 1024, .inl fK2))] sz) := by
  refine Met.ofW (cc := cX3_tell) (maxL := 5) (ret := (some .boolean)) (by decide) rfl ?_
  intro p e s m args below meth c s₁ B hml hv
  obtain ⟨rfl, hsz, hP, hK, hD0⟩ := hv
  have hx := B.exec
  have hb := B.bytes
  have hr := B.returns
  have hts := atoms_spec (ws := wsX3_tell) B.pre
  have hown : s.vm.findClass RX3 = some m.cls := findClass_of_methodNamed B.named
  have hlocks := B.notSynchronized
  have in_X3 : ∀ w ∈ wsX30, w ∈ wsX3_tell := fun _ h => List.mem_cons_of_mem _ (List.mem_append_right _ (h))
  subst hsz
  have hD := hD0.self (sz := s.heap.size)
  generalize hAe : va_A [(oK, .inr (3, [.ref k1, .ref k2, .int lK])), (k1, .inl (cI, 1024, .inl fK1)), (k2, .inl (cI, 1024, .inl fK2))] s.heap.size = A at hD ⊢
  have hA : ∀ q : Nat, s.heap.size ≤ q → A q := fun q h => by rw [← hAe]; exact Or.inr h
  have hS : va_S A s.heap s.heap [] := va_S.rf
  have hP : va_P (dC, dI) vwCl [(oK, .inr (3, [.ref k1, .ref k2, .int lK])), (k1, .inl (cI, 1024, .inl fK1)), (k2, .inl (cI, 1024, .inl fK2))] s.heap := hP
  have hl := lv_entry ([.ref oK, .int x, .int y, .int v]) (n := 5) (Nat.le_of_ble_eq_true rfl)
  rw [lg_entry_eq]
  generalize (lg_sl ([.ref oK, .int x, .int y, .int v]) ++ List.replicate (5 - (lg_sl ([.ref oK, .int x, .int y, .int v])).length) Slot.unset).toArray = ls at hl ⊢
  have hl : lv_has ls 5 [(0, .ref oK), (1, .int x), (2, .int y), (3, .int v)] := hl
  obtain ⟨QQ, hQQ⟩ : ∃ QQ : Array Value → State → Outcome → State → Prop, QQ = va_Qi (fun (r : Int32) (u : Int32) => r = u) (fun (r : Int32) t => ∃ (lK' : Int32) (fK1' : Nat → Int32) (fK2' : Nat → Int32), va_P (dC, dI) vwCl [(oK, .inr (3, [.ref k1, .ref k2, .int lK'])), (k1, .inl (cI, 1024, .inl fK1')), (k2, .inl (cI, 1024, .inl fK2'))] t.heap ∧ va_D A [(oK, .inr (3, [.ref k1, .ref k2, .int lK'])), (k1, .inl (cI, 1024, .inl fK1')), (k2, .inl (cI, 1024, .inl fK2'))] ∧ (0 ≤ lK'.toInt ∧ lK'.toInt ≤ 300) ∧ (0 ≤ r.toInt ∧ r.toInt ≤ 1) ∧ (F_tk lK lK' r v (pk2 x y) fK1 fK1' fK2 fK2')) A := ⟨_, rfl⟩
  rw [← hQQ]
  refine lv_aload_n hx hb dX3_tell_0 rfl (lv_at hl 0 rfl) ?_
  refine lv_iload_n hx hb dX3_tell_1 rfl (lv_at hl 1 rfl) ?_
  refine lv_iload_n hx hb dX3_tell_2 rfl (lv_at hl 2 rfl) ?_
  have hPc := hP.sub (ws' := [(oK, .inr (3, [.ref k1, .ref k2, .int lK])), (k1, .inl (cI, 1024, .inl fK1)), (k2, .inl (cI, 1024, .inl fK2))]) [0, 1, 2] rfl
  have hDc := hD.sub (ws' := [(oK, .inr (3, [.ref k1, .ref k2, .int lK])), (k1, .inl (cI, 1024, .inl fK1)), (k2, .inl (cI, 1024, .inl fK2))]) [0, 1, 2] (by decide) rfl
  have hFc := va_free (wc := [(oK, .inr (3, [.ref k1, .ref k2, .int lK])), (k1, .inl (cI, 1024, .inl fK1)), (k2, .inl (cI, 1024, .inl fK2))]) hD hS hA [0, 1, 2] rfl
  refine va_calli (va_runV (As := [.int x, .int y]) (rest := []) ⟨hx, hb, hml, hown, hts⟩ (f_X3_placeFor l dC dI cI cS s.heap.size oK k1 k2 lK fK1 fK2 x y (by omega)) (cwV 2 hts gX3_tell_X3_placeFor rfl rfl rfl (by decide +kernel) ⟨Nat.le_of_ble_eq_true rfl, Nat.le_of_ble_eq_true rfl⟩) ⟨fun a U g mk q => by obtain ⟨q0, q1, qP, qK, qD⟩ := q; exact ⟨q0, q1, qP, va_K.moved (u := U) (U := U.calling g mk a) (Vm.Alike.refl U.vm) qK, qD⟩, va_recv hK hPc (ci := 3) (q0 := 0) rfl rfl, fun U hU hW => ⟨rfl, by rw [hU], by rw [hU]; exact hPc, va_K.moved hW.alike hK, hDc.weaken (fun _ _ _ _ => trivial)⟩⟩ rfl rfl hl.1 rfl (lv_room (Nat.le_of_ble_eq_true rfl)) dX3_tell_3 ⟨Nat.le_of_ble_eq_true rfl, Nat.le_of_ble_eq_true rfl⟩) hS (fun q _ h => hFc q h) hFc (fun r_1 u t H1 locs ht hvm hw hB hz1 hk1 hS => ?_)
  subst hw
  obtain ⟨hP1, hD1, hf1_0, hf1_1⟩ := hB
  rw [ht] at hP1
  obtain ⟨hP, hD⟩ := va_join (wr := []) (w1 := [(oK, .inr (3, [.ref k1, .ref k2, .int lK])), (k1, .inl (cI, 1024, .inl fK1)), (k2, .inl (cI, 1024, .inl fK2))]) hP hD [0, 1, 2] [] rfl rfl (by decide) (by decide) hk1 hFc hP1 hD1
  generalize H1 = H at hP hS ⊢
  have hP : va_P (dC, dI) vwCl [(oK, .inr (3, [.ref k1, .ref k2, .int lK])), (k1, .inl (cI, 1024, .inl fK1)), (k2, .inl (cI, 1024, .inl fK2))] H := hP
  have hD : va_D A [(oK, .inr (3, [.ref k1, .ref k2, .int lK])), (k1, .inl (cI, 1024, .inl fK1)), (k2, .inl (cI, 1024, .inl fK2))] := hD
  have hpf1 := pf_found hf1_1 ho (by omega)
  refine lv_istore (lv' := [(4, .int r_1), (0, .ref oK), (1, .int x), (2, .int y), (3, .int v)]) hx hb dX3_tell_6 hl (by decide) rfl (fun ls hl => ?_)
  refine lv_iload hx hb dX3_tell_8 (lv_at hl 0 rfl) ?_
  refine lv_iconst (v := (-1)) hx hb dX3_tell_10 (by decide) ?_
  refine lv_icmp_eq (tgt := 25) hx hb dX3_tell_11 (by decide) (fun c_2 => ?_) (fun c_2 => ?_)
  · have tc_2 : r_1.toInt = (-1) := v_eq c_2
    refine lv_iconst (v := 0) hx hb dX3_tell_25 (by decide) ?_
    have hP9 := hP.sub (ws' := [(oK, .inr (3, [.ref k1, .ref k2, .int lK])), (k1, .inl (cI, 1024, .inl fK1)), (k2, .inl (cI, 1024, .inl fK2))]) [0, 1, 2] rfl
    have hD9 := hD.sub (ws' := [(oK, .inr (3, [.ref k1, .ref k2, .int lK])), (k1, .inl (cI, 1024, .inl fK1)), (k2, .inl (cI, 1024, .inl fK2))]) [0, 1, 2] (by decide) rfl
    rw [hQQ]
    exact W.zret (v := 0) (ty := .boolean) hx hb hr (rfl) (fun t ht hW => ⟨⟨0, 0, rfl, rfl, ⟨lK, fK1, fK2, by rw [ht]; exact hP9, hD9, by omega, by decide, Or.inr ⟨rfl, Or.inl (by unfold okv; omega), rfl, rfl, rfl⟩⟩⟩, hS.F ht⟩) hS.2.2 dX3_tell_26
  · have tc_2 : ¬ r_1.toInt = (-1) := v_ne c_2
    refine lv_iload_n hx hb dX3_tell_14 rfl (lv_at hl 4 rfl) ?_
    refine lv_if_lt (tgt := 25) hx hb dX3_tell_15 (by decide) (fun c_3 => ?_) (fun c_3 => ?_)
    · have tc_3 : v.toInt < 0 := v_lt c_3
      refine lv_iconst (v := 0) hx hb dX3_tell_25 (by decide) ?_
      have hP9 := hP.sub (ws' := [(oK, .inr (3, [.ref k1, .ref k2, .int lK])), (k1, .inl (cI, 1024, .inl fK1)), (k2, .inl (cI, 1024, .inl fK2))]) [0, 1, 2] rfl
      have hD9 := hD.sub (ws' := [(oK, .inr (3, [.ref k1, .ref k2, .int lK])), (k1, .inl (cI, 1024, .inl fK1)), (k2, .inl (cI, 1024, .inl fK2))]) [0, 1, 2] (by decide) rfl
      rw [hQQ]
      exact W.zret (v := 0) (ty := .boolean) hx hb hr (rfl) (fun t ht hW => ⟨⟨0, 0, rfl, rfl, ⟨lK, fK1, fK2, by rw [ht]; exact hP9, hD9, by omega, by decide, Or.inr ⟨rfl, Or.inl (by unfold okv; omega), rfl, rfl, rfl⟩⟩⟩, hS.F ht⟩) hS.2.2 dX3_tell_26
    · have tc_3 : 0 ≤ v.toInt := v_nlt c_3
      refine lv_iload_n hx hb dX3_tell_18 rfl (lv_at hl 4 rfl) ?_
      refine lv_sipush (v := 200) hx hb dX3_tell_19 (by decide) ?_
      refine lv_icmp_le (tgt := 27) hx hb dX3_tell_22 (by decide) (fun c_4 => ?_) (fun c_4 => ?_)
      · have tc_4 : v.toInt ≤ 200 := v_le c_4
        refine lv_aload_n hx hb dX3_tell_27 rfl (lv_at hl 1 rfl) ?_
        refine va_get (D := (dC, dI)) (ci := 3) (v := .ref k2) (C := RX3) (T := TX3) (N := 3) hx hb hts in_X3 hown hK hP 0 rfl rfl 1 (by decide) (hts (.fieldLink RX3 15 "TextMender$Costs" "value" "[I") (List.mem_of_getElem? (i := 1) rfl)) (fun _ h9 => h9) rfl dX3_tell_28 ?_
        refine lv_iload hx hb dX3_tell_31 (lv_at hl 0 rfl) ?_
        refine va_iald hx hb hK hP 2 0 rfl rfl (v_in (by omega)) dX3_tell_33 ?_
        refine lv_topi (fun x_5 ex_5 => ?_)
        refine lv_iconst (v := (-1)) hx hb dX3_tell_34 (by decide) ?_
        refine lv_icmp_ne (tgt := 72) hx hb dX3_tell_35 (by decide) (fun c_6 => ?_) (fun c_6 => ?_)
        · have tc_6 : ¬ x_5.toInt = (-1) := v_ne c_6
          refine lv_aload_n hx hb dX3_tell_72 rfl (lv_at hl 1 rfl) ?_
          refine va_get (D := (dC, dI)) (ci := 3) (v := .ref k2) (C := RX3) (T := TX3) (N := 3) hx hb hts in_X3 hown hK hP 0 rfl rfl 1 (by decide) (hts (.fieldLink RX3 15 "TextMender$Costs" "value" "[I") (List.mem_of_getElem? (i := 1) rfl)) (fun _ h9 => h9) rfl dX3_tell_73 ?_
          refine lv_iload hx hb dX3_tell_76 (lv_at hl 0 rfl) ?_
          refine lv_iload_n hx hb dX3_tell_78 rfl (lv_at hl 4 rfl) ?_
          refine va_iast hx hb hK hP hD hS 2 0 rfl rfl (v_in (by omega)) dX3_tell_79 (fun H locs hP hD hS => ?_)
          have hP : va_P (dC, dI) vwCl [(oK, .inr (3, [.ref k1, .ref k2, .int lK])), (k1, .inl (cI, 1024, .inl fK1)), (k2, .inl (cI, 1024, .inl (upd fK2 (r_1 : Int32).toNatClampNeg v)))] H := hP
          have hD : va_D A [(oK, .inr (3, [.ref k1, .ref k2, .int lK])), (k1, .inl (cI, 1024, .inl fK1)), (k2, .inl (cI, 1024, .inl (upd fK2 (r_1 : Int32).toNatClampNeg v)))] := hD
          obtain ⟨f_7, ef_7⟩ : ∃ g : Nat → Int32, g = upd fK2 (r_1 : Int32).toNatClampNeg v := ⟨_, rfl⟩
          rw [← ef_7] at hP hD
          refine lv_iconst (v := 1) hx hb dX3_tell_80 (by decide) ?_
          have hP9 := hP.sub (ws' := [(oK, .inr (3, [.ref k1, .ref k2, .int lK])), (k1, .inl (cI, 1024, .inl fK1)), (k2, .inl (cI, 1024, .inl f_7))]) [0, 1, 2] rfl
          have hD9 := hD.sub (ws' := [(oK, .inr (3, [.ref k1, .ref k2, .int lK])), (k1, .inl (cI, 1024, .inl fK1)), (k2, .inl (cI, 1024, .inl f_7))]) [0, 1, 2] (by decide) rfl
          rw [hQQ]
          exact W.zret (v := 1) (ty := .boolean) hx hb hr (rfl) (fun t ht hW => ⟨⟨1, 1, rfl, rfl, ⟨lK, fK1, f_7, by rw [ht]; exact hP9, hD9, by omega, by decide, Or.inl ⟨rfl, by unfold okv; omega, Or.inl ⟨⟨r_1.toNatClampNeg, by have c9 := v_clamp (x := r_1) (by omega); omega, pl_own hpf1.2 (by rw [← ex_5]; exact c_6), by rw [← ex_5]; exact c_6⟩, rfl, rfl, r_1.toNatClampNeg, by rw [← ex_5]; exact c_6, ef_7, by have c9 := v_clamp (x := r_1) (by omega); omega, pl_own hpf1.2 (by rw [← ex_5]; exact c_6)⟩⟩⟩⟩, hS.F ht⟩) hS.2.2 dX3_tell_81
        · have tc_6 : x_5.toInt = (-1) := v_eq c_6
          refine lv_aload_n hx hb dX3_tell_38 rfl (lv_at hl 1 rfl) ?_
          refine va_get (D := (dC, dI)) (ci := 3) (v := .int lK) (C := RX3) (T := TX3) (N := 3) hx hb hts in_X3 hown hK hP 0 rfl rfl 2 (by decide) (hts (.fieldLink RX3 24 "TextMender$Costs" "length" "I") (List.mem_of_getElem? (i := 2) rfl)) (fun _ h9 => h9) rfl dX3_tell_39 ?_
          refine lv_sipush (v := 300) hx hb dX3_tell_42 (by decide) ?_
          refine lv_icmp_lt (tgt := 50) hx hb dX3_tell_45 (by decide) (fun c_8 => ?_) (fun c_8 => ?_)
          · have tc_8 : lK.toInt < 300 := v_lt c_8
            refine lv_aload_n hx hb dX3_tell_50 rfl (lv_at hl 1 rfl) ?_
            refine va_get (D := (dC, dI)) (ci := 3) (v := .ref k1) (C := RX3) (T := TX3) (N := 3) hx hb hts in_X3 hown hK hP 0 rfl rfl 0 (by decide) (hts (.fieldLink RX3 11 "TextMender$Costs" "pair" "[I") (List.mem_of_getElem? (i := 3) rfl)) (fun _ h9 => h9) rfl dX3_tell_51 ?_
            refine lv_iload hx hb dX3_tell_54 (lv_at hl 0 rfl) ?_
            refine lv_iload_n hx hb dX3_tell_56 rfl (lv_at hl 2 rfl) ?_
            refine lv_iload_n hx hb dX3_tell_57 rfl (lv_at hl 3 rfl) ?_
            have hPc := hP.sub (ws' := []) [] rfl
            have hDc := hD.sub (ws' := []) [] (by decide) rfl
            have hFc := va_free (wc := []) hD hS hA [] rfl
            refine va_calli (va_runS (As := [.int x, .int y]) (rest := [.int r_1, .ref k1]) ⟨hx, hb, hml, hown, hts⟩ (f_X3_pairOf l dC dI cI cS H.size x y ) (va_cwS 2 hts gX3_tell_X3_pairOf rfl rfl rfl (by decide +kernel) ⟨Nat.le_of_ble_eq_true rfl, Nat.le_of_ble_eq_true rfl⟩) ⟨fun a U g mk q => by obtain ⟨q0, q1, qP, qK, qD⟩ := q; exact ⟨q0, q1, qP, va_K.moved (u := U) (U := U.calling g mk a) (Vm.Alike.refl U.vm) qK, qD⟩, fun U hU hW => ⟨rfl, by rw [hU], by rw [hU]; exact hPc, va_K.moved hW.alike hK, hDc.weaken (fun _ _ _ _ => trivial)⟩⟩ rfl rfl hl.1 rfl (lv_room (Nat.le_of_ble_eq_true rfl)) dX3_tell_58 ⟨Nat.le_of_ble_eq_true rfl, Nat.le_of_ble_eq_true rfl⟩) hS (fun q _ h => hFc q h) hFc (fun r_9 u t H1 locs ht hvm hw hB hz1 hk1 hS => ?_)
            subst hw
            obtain ⟨hP1, hD1, hf9_0⟩ := hB
            rw [ht] at hP1
            obtain ⟨hP, hD⟩ := va_join (wr := [(oK, .inr (3, [.ref k1, .ref k2, .int lK])), (k1, .inl (cI, 1024, .inl fK1)), (k2, .inl (cI, 1024, .inl fK2))]) (w1 := []) hP hD [] [0, 1, 2] rfl rfl (by decide) (by decide) hk1 hFc hP1 hD1
            generalize H1 = H at hP hS ⊢
            have hP : va_P (dC, dI) vwCl [(oK, .inr (3, [.ref k1, .ref k2, .int lK])), (k1, .inl (cI, 1024, .inl fK1)), (k2, .inl (cI, 1024, .inl fK2))] H := hP
            have hD : va_D A [(oK, .inr (3, [.ref k1, .ref k2, .int lK])), (k1, .inl (cI, 1024, .inl fK1)), (k2, .inl (cI, 1024, .inl fK2))] := hD
            rw [hf9_0]
            refine va_iast hx hb hK hP hD hS 1 0 rfl rfl (v_in (by omega)) dX3_tell_61 (fun H locs hP hD hS => ?_)
            have hP : va_P (dC, dI) vwCl [(oK, .inr (3, [.ref k1, .ref k2, .int lK])), (k1, .inl (cI, 1024, .inl (upd fK1 (r_1 : Int32).toNatClampNeg (pk2 x y)))), (k2, .inl (cI, 1024, .inl fK2))] H := hP
            have hD : va_D A [(oK, .inr (3, [.ref k1, .ref k2, .int lK])), (k1, .inl (cI, 1024, .inl (upd fK1 (r_1 : Int32).toNatClampNeg (pk2 x y)))), (k2, .inl (cI, 1024, .inl fK2))] := hD
            obtain ⟨f_10, ef_10⟩ : ∃ g : Nat → Int32, g = upd fK1 (r_1 : Int32).toNatClampNeg (pk2 x y) := ⟨_, rfl⟩
            rw [← ef_10] at hP hD
            refine lv_aload_n hx hb dX3_tell_62 rfl (lv_at hl 1 rfl) ?_
            refine lv_dup hx hb dX3_tell_63 rfl ?_
            refine va_get (D := (dC, dI)) (ci := 3) (v := .int lK) (C := RX3) (T := TX3) (N := 3) hx hb hts in_X3 hown hK hP 0 rfl rfl 2 (by decide) (hts (.fieldLink RX3 24 "TextMender$Costs" "length" "I") (List.mem_of_getElem? (i := 2) rfl)) (fun _ h9 => h9) rfl dX3_tell_64 ?_
            refine lv_iconst (v := 1) hx hb dX3_tell_67 (by decide) ?_
            refine lv_iadd hx hb dX3_tell_68 ?_
            refine lv_topi (fun x_11 ex_11 => ?_)
            have tx_11 : x_11.toInt = lK.toInt + 1 := v_add ex_11 (by show -2147483648 ≤ lK.toInt + 1; omega) (by show lK.toInt + 1 < 2147483648; omega)
            refine va_put (D := (dC, dI)) (ci := 3) (v := .int x_11) (ty := .int) (C := RX3) (T := TX3) (N := 3) hx hb hts in_X3 tyX3 tyX3_ok nmX3 hown hK hP hD hS 0 rfl rfl 2 (by decide) (hts (.fieldLink RX3 24 "TextMender$Costs" "length" "I") (List.mem_of_getElem? (i := 2) rfl)) (fun _ h9 => h9) rfl (by decide +kernel) rfl rfl (Nat.le_of_ble_eq_true rfl) dX3_tell_69 (fun H locs hP hD hS => ?_)
            have hP : va_P (dC, dI) vwCl [(oK, .inr (3, [.ref k1, .ref k2, .int x_11])), (k1, .inl (cI, 1024, .inl f_10)), (k2, .inl (cI, 1024, .inl fK2))] H := hP
            have hD : va_D A [(oK, .inr (3, [.ref k1, .ref k2, .int x_11])), (k1, .inl (cI, 1024, .inl f_10)), (k2, .inl (cI, 1024, .inl fK2))] := hD
            refine lv_aload_n hx hb dX3_tell_72 rfl (lv_at hl 1 rfl) ?_
            refine va_get (D := (dC, dI)) (ci := 3) (v := .ref k2) (C := RX3) (T := TX3) (N := 3) hx hb hts in_X3 hown hK hP 0 rfl rfl 1 (by decide) (hts (.fieldLink RX3 15 "TextMender$Costs" "value" "[I") (List.mem_of_getElem? (i := 1) rfl)) (fun _ h9 => h9) rfl dX3_tell_73 ?_
            refine lv_iload hx hb dX3_tell_76 (lv_at hl 0 rfl) ?_
            refine lv_iload_n hx hb dX3_tell_78 rfl (lv_at hl 4 rfl) ?_
            refine va_iast hx hb hK hP hD hS 2 0 rfl rfl (v_in (by omega)) dX3_tell_79 (fun H locs hP hD hS => ?_)
            have hP : va_P (dC, dI) vwCl [(oK, .inr (3, [.ref k1, .ref k2, .int x_11])), (k1, .inl (cI, 1024, .inl f_10)), (k2, .inl (cI, 1024, .inl (upd fK2 (r_1 : Int32).toNatClampNeg v)))] H := hP
            have hD : va_D A [(oK, .inr (3, [.ref k1, .ref k2, .int x_11])), (k1, .inl (cI, 1024, .inl f_10)), (k2, .inl (cI, 1024, .inl (upd fK2 (r_1 : Int32).toNatClampNeg v)))] := hD
            obtain ⟨f_12, ef_12⟩ : ∃ g : Nat → Int32, g = upd fK2 (r_1 : Int32).toNatClampNeg v := ⟨_, rfl⟩
            rw [← ef_12] at hP hD
            refine lv_iconst (v := 1) hx hb dX3_tell_80 (by decide) ?_
            have hP9 := hP.sub (ws' := [(oK, .inr (3, [.ref k1, .ref k2, .int x_11])), (k1, .inl (cI, 1024, .inl f_10)), (k2, .inl (cI, 1024, .inl f_12))]) [0, 1, 2] rfl
            have hD9 := hD.sub (ws' := [(oK, .inr (3, [.ref k1, .ref k2, .int x_11])), (k1, .inl (cI, 1024, .inl f_10)), (k2, .inl (cI, 1024, .inl f_12))]) [0, 1, 2] (by decide) rfl
            rw [hQQ]
            exact W.zret (v := 1) (ty := .boolean) hx hb hr (rfl) (fun t ht hW => ⟨⟨1, 1, rfl, rfl, ⟨x_11, f_10, f_12, by rw [ht]; exact hP9, hD9, by omega, by decide, Or.inl ⟨rfl, by unfold okv; omega, Or.inr ⟨(tK_no hT hpf1.2 (by rw [← ex_5]; exact c_6)), by omega, by omega, r_1, by omega, by omega, hpf1.2, by rw [← ex_5]; exact c_6, ef_10, ef_12⟩⟩⟩⟩, hS.F ht⟩) hS.2.2 dX3_tell_81
          · have tc_8 : 300 ≤ lK.toInt := v_nlt c_8
            refine lv_iconst (v := 0) hx hb dX3_tell_48 (by decide) ?_
            have hP9 := hP.sub (ws' := [(oK, .inr (3, [.ref k1, .ref k2, .int lK])), (k1, .inl (cI, 1024, .inl fK1)), (k2, .inl (cI, 1024, .inl fK2))]) [0, 1, 2] rfl
            have hD9 := hD.sub (ws' := [(oK, .inr (3, [.ref k1, .ref k2, .int lK])), (k1, .inl (cI, 1024, .inl fK1)), (k2, .inl (cI, 1024, .inl fK2))]) [0, 1, 2] (by decide) rfl
            rw [hQQ]
            exact W.zret (v := 0) (ty := .boolean) hx hb hr (rfl) (fun t ht hW => ⟨⟨0, 0, rfl, rfl, ⟨lK, fK1, fK2, by rw [ht]; exact hP9, hD9, by omega, by decide, Or.inr ⟨rfl, Or.inr ⟨(tK_no hT hpf1.2 (by rw [← ex_5]; exact c_6)), by omega⟩, rfl, rfl, rfl⟩⟩⟩, hS.F ht⟩) hS.2.2 dX3_tell_49
      · have tc_4 : 200 < v.toInt := v_nle c_4
        refine lv_iconst (v := 0) hx hb dX3_tell_25 (by decide) ?_
        have hP9 := hP.sub (ws' := [(oK, .inr (3, [.ref k1, .ref k2, .int lK])), (k1, .inl (cI, 1024, .inl fK1)), (k2, .inl (cI, 1024, .inl fK2))]) [0, 1, 2] rfl
        have hD9 := hD.sub (ws' := [(oK, .inr (3, [.ref k1, .ref k2, .int lK])), (k1, .inl (cI, 1024, .inl fK1)), (k2, .inl (cI, 1024, .inl fK2))]) [0, 1, 2] (by decide) rfl
        rw [hQQ]
        exact W.zret (v := 0) (ty := .boolean) hx hb hr (rfl) (fun t ht hW => ⟨⟨0, 0, rfl, rfl, ⟨lK, fK1, fK2, by rw [ht]; exact hP9, hD9, by omega, by decide, Or.inr ⟨rfl, Or.inl (by unfold okv; omega), rfl, rfl, rfl⟩⟩⟩, hS.F ht⟩) hS.2.2 dX3_tell_26

def noP (n : Int) (a b : Int32) (f g : Nat → Int32) : Prop := ∀ j : Nat, (j : Int) < n → ¬ (f j = a ∧ g j = b)
def isP (n : Int) (a b : Int32) (f g : Nat → Int32) : Prop := ∃ j : Nat, (j : Int) < n ∧ f j = a ∧ g j = b
theorem noP_0 {n : Int} {a b : Int32} {f g : Nat → Int32} (h : n ≤ 0) : noP n a b f g := fun j hj => by omega
theorem noP_s1 {a b k k' x : Int32} {f g : Nat → Int32} (h : noP k.toInt a b f g) (ex : x = f k.toNatClampNeg) (hx : ¬ x = a) (hk : 0 ≤ k.toInt) (hk' : k'.toInt = k.toInt + 1) : noP k'.toInt a b f g := by
  intro j hj
  have q := v_clamp hk
  by_cases z : j = k.toNatClampNeg
  · rw [z, ← ex]; exact fun w => hx w.1
  · exact h j (by omega)
theorem noP_s2 {a b k k' y : Int32} {f g : Nat → Int32} (h : noP k.toInt a b f g) (ey : y = g k.toNatClampNeg) (hy : ¬ y = b) (hk : 0 ≤ k.toInt) (hk' : k'.toInt = k.toInt + 1) : noP k'.toInt a b f g := by
  intro j hj
  have q := v_clamp hk
  by_cases z : j = k.toNatClampNeg
  · rw [z, ← ey]; exact fun w => hy w.2
  · exact h j (by omega)
theorem isP_at {n : Int} {a b k x y : Int32} {f g : Nat → Int32} (ex : x = f k.toNatClampNeg) (ey : y = g k.toNatClampNeg) (hx : x = a) (hy : y = b) (hk : 0 ≤ k.toInt) (hn : k.toInt < n) : isP n a b f g := by
  have q := v_clamp hk
  exact ⟨k.toNatClampNeg, by omega, by rw [← ex]; exact hx, by rw [← ey]; exact hy⟩
theorem noP_isP {n : Int} {a b : Int32} {f g : Nat → Int32} (h : noP n a b f g) (h2 : isP n a b f g) : False := by
  obtain ⟨j, h1, h3⟩ := h2
  exact h j h1 h3

def isLq (x : Int32) : Prop := 0 ≤ x.toInt ∧ x.toInt ≤ 65535 ∧ (x.toInt < 55296 ∨ 57343 < x.toInt)
def F_cst (l l' r x y v : Int32) (K K' V V' : Nat → Int32) : Prop := (isLq x ∧ isLq y ∧ F_tk l l' r v (pk2 x y) K K' V V') ∨ (r = 0 ∧ ¬ (isLq x ∧ isLq y) ∧ l' = l ∧ K' = K ∧ V' = V)
def F_ck (z z' r x y v : Int32) (X X' Y Y' Z Z' : Nat → Int32) : Prop := (isLq x ∧ isLq y ∧ ((r = 1 ∧ okv v ∧ ((isP z.toInt x y X Y ∧ z'.toInt = z.toInt ∧ ∃ k : Nat, X k = x ∧ Y k = y ∧ X' = upd X k x ∧ Y' = upd Y k y ∧ Z' = upd Z k v ∧ (k : Int) < z.toInt ∧ noP k x y X Y) ∨ (noP z.toInt x y X Y ∧ z.toInt < 300 ∧ z'.toInt = z.toInt + 1 ∧ X' = upd X z.toNatClampNeg x ∧ Y' = upd Y z.toNatClampNeg y ∧ Z' = upd Z z.toNatClampNeg v))) ∨ (r = 0 ∧ (¬ okv v ∨ (noP z.toInt x y X Y ∧ 300 ≤ z.toInt)) ∧ z' = z ∧ X' = X ∧ Y' = Y ∧ Z' = Z))) ∨ (r = 0 ∧ ¬ (isLq x ∧ isLq y) ∧ z' = z ∧ X' = X ∧ Y' = Y ∧ Z' = Z)
theorem upd_id {f : Nat → Int32} {k : Nat} {v : Int32} (h : f k = v) : upd f k v = f := by
  funext j
  by_cases z : j = k
  · rw [z, pk_us, h]
  · rw [pk_un z]
theorem F_ck_inv {z z' r x y v : Int32} {X X' Y Y' Z Z' : Nat → Int32} (hz : 0 ≤ z.toInt) (h : F_ck z z' r x y v X X' Y Y' Z Z') (x' y' : Int32) : isP z'.toInt x' y' X' Y' ↔ (isP z.toInt x' y' X Y ∨ (r = 1 ∧ x' = x ∧ y' = y)) := by
  have a := v_clamp hz
  rcases h with ⟨-, -, ⟨e, -, ⟨t1, t2, k, k1, k2, k3, k4, -⟩ | ⟨t1, t2, t3, t4, t5, -⟩⟩ | ⟨e, -, t1, t2, t3, -⟩⟩ | ⟨e, -, t1, t2, t3, -⟩
  · rw [upd_id k1] at k3
    rw [upd_id k2] at k4
    rw [k3, k4, t2]
    constructor
    · exact Or.inl
    · rintro (w | ⟨_, w1, w2⟩)
      · exact w
      · rw [w1, w2]; exact t1
  · constructor
    · rintro ⟨j, j1, j2, j3⟩
      by_cases w : j = z.toNatClampNeg
      · refine Or.inr ⟨e, ?_, ?_⟩
        · rw [← j2, t4, w, pk_us]
        · rw [← j3, t5, w, pk_us]
      · rw [t4, pk_un w] at j2
        rw [t5, pk_un w] at j3
        exact Or.inl ⟨j, by omega, j2, j3⟩
    · rintro (⟨j, j1, j2, j3⟩ | ⟨_, w1, w2⟩)
      · have w : j ≠ z.toNatClampNeg := by omega
        exact ⟨j, by omega, by rw [t4, pk_un w]; exact j2, by rw [t5, pk_un w]; exact j3⟩
      · exact ⟨z.toNatClampNeg, by omega, by rw [t4, pk_us, w1], by rw [t5, pk_us, w2]⟩
  · rw [t1, t2, t3]
    constructor
    · exact Or.inl
    · rintro (w | ⟨w, _⟩)
      · exact w
      · rw [e] at w; exact absurd w (by decide)
  · rw [t1, t2, t3]
    constructor
    · exact Or.inl
    · rintro (w | ⟨w, _⟩)
      · exact w
      · rw [e] at w; exact absurd w (by decide)
/-- the same pairs are told on both sides -/
def alK (zc : Int) (K V X Y : Nat → Int32) : Prop := ∀ x y : Int32, isLq x → isLq y → (tK 1024 K V (pk2 x y) ↔ isP zc x y X Y)
theorem isP_or {n : Int} {a b : Int32} {f g : Nat → Int32} (h : ¬ noP n a b f g) : isP n a b f g := Classical.byContradiction fun w => h (fun j h1 h2 => w ⟨j, h1, h2⟩)
theorem cost_r {l l' r z z' q x y v : Int32} {K K' V V' X X' Y Y' Z Z' : Nat → Int32} (hl : l.toInt = z.toInt) (hA : alK z.toInt K V X Y) (h1 : F_cst l l' r x y v K K' V V') (h2 : F_ck z z' q x y v X X' Y Y' Z Z') : r = q ∧ l'.toInt = z'.toInt := by
  rcases h1 with ⟨a1, a2, ⟨a3, a4, ⟨a5, a6, -⟩ | ⟨a5, a6, a7, -⟩⟩ | ⟨a3, a4, a5, -⟩⟩ | ⟨a3, a4, a5, -⟩ <;> rcases h2 with ⟨b1, b2, ⟨b3, b4, ⟨b5, b6, -⟩ | ⟨b5, b6, b7, -⟩⟩ | ⟨b3, b4, b5, -⟩⟩ | ⟨b3, b4, b5, -⟩
  · exact ⟨by rw [a3, b3], by omega⟩
  · exact absurd ((hA x y a1 a2).mp a5) (fun w => noP_isP b5 w)
  · exfalso; rcases b4 with w | w
    · exact w a4
    · exact noP_isP w.1 ((hA x y a1 a2).mp a5)
  · exact absurd ⟨a1, a2⟩ b4
  · exact absurd ((hA x y a1 a2).mpr b5) a5
  · exact ⟨by rw [a3, b3], by omega⟩
  · exfalso; rcases b4 with w | w
    · exact w a4
    · omega
  · exact absurd ⟨a1, a2⟩ b4
  · exfalso; rcases a4 with w | w
    · exact w b4
    · exact w.1 ((hA x y a1 a2).mpr b5)
  · exfalso; rcases a4 with w | w
    · exact w b4
    · omega
  · exact ⟨by rw [a3, b3], by rw [a5, b5]; exact hl⟩
  · exact absurd ⟨a1, a2⟩ b4
  · exact absurd ⟨b1, b2⟩ a4
  · exact absurd ⟨b1, b2⟩ a4
  · exact absurd ⟨b1, b2⟩ a4
  · exact ⟨by rw [a3, b3], by rw [a5, b5]; exact hl⟩
theorem isLq_r {x : Int32} (h : isLq x) : 0 ≤ x.toInt ∧ x.toInt ≤ 65535 := ⟨h.1, h.2.1⟩
theorem cost_inv {l l' r z z' q x y v : Int32} {K K' V V' X X' Y Y' Z Z' : Nat → Int32} (hz : 0 ≤ z.toInt) (hl : l.toInt = z.toInt) (hT : HT 1024 1023 hsK K V) (ho : (occ V 1024 : Int) ≤ l.toInt) (hA : alK z.toInt K V X Y) (h1 : F_cst l l' r x y v K K' V V') (h2 : F_ck z z' q x y v X X' Y Y' Z Z') : HT 1024 1023 hsK K' V' ∧ (occ V' 1024 : Int) ≤ l'.toInt ∧ alK z'.toInt K' V' X' Y' := by
  have hr := (cost_r hl hA h1 h2).1
  have hc := F_ck_inv hz h2
  rcases h1 with ⟨a1, a2, a3⟩ | ⟨a3, a4, a5, a6, a7⟩
  · obtain ⟨i1, i2, i3⟩ := F_tk_inv hT ho a3
    refine ⟨i1, i2, fun x' y' l1 l2 => ?_⟩
    rw [i3, hc, hA x' y' l1 l2, hr]
    constructor
    · rintro (w | ⟨w1, w2⟩)
      · exact Or.inl w
      · obtain ⟨e1, e2⟩ := pk2_inj (isLq_r l1) (isLq_r l2) (isLq_r a1) (isLq_r a2) w2
        exact Or.inr ⟨w1, e1, e2⟩
    · rintro (w | ⟨w1, w2, w3⟩)
      · exact Or.inl w
      · exact Or.inr ⟨w1, by rw [w2, w3]⟩
  · refine ⟨by rw [a6, a7]; exact hT, by rw [a5, a7]; exact ho, fun x' y' l1 l2 => ?_⟩
    rw [a6, a7, hc, hA x' y' l1 l2]
    constructor
    · exact Or.inl
    · rintro (w | ⟨w, _⟩)
      · exact w
      · rw [← hr, a3] at w; exact absurd w (by decide)

set_option maxHeartbeats 40000000 in
set_option maxRecDepth 100000 in
theorem f_X11_cost (l : Launch) (dC : Nat → ClassId) (dI : Nat → Nat → Nat) (cI cS : ClassId) (sz : Nat) (oX : Nat) (nT : Nat) (nL : Nat) (nM : Nat) (oC : Nat) (oP : Nat) (oH : Nat) (oK : Nat) (oG : Nat) (oR : Nat) (oQ : Nat) (oW : Nat) (k1 : Nat) (k2 : Nat) (nw : Nat) (w1 : Nat) (w2 : Nat) (w3 : Nat) (o7 : Nat) (o8 : Nat) (o9 : Nat) (w4 : Nat) (w5 : Nat) (w6 : Nat) (w7 : Nat) (fa : Int32) (lK : Int32) (fK1 : Nat → Int32) (fK2 : Nat → Int32) (ke : Int32) (tl : Int32) (fsh : Int32) (wi : Int32) (ri : Int32) (fm : Int32) (lm : Int32) (x : Int32) (y : Int32) (v : Int32) (g_lK : 0 ≤ lK.toInt ∧ lK.toInt ≤ 300) (g_ke : 0 ≤ ke.toInt ∧ ke.toInt ≤ 200) (g_fsh : 0 ≤ fsh.toInt ∧ fsh.toInt ≤ 1) (g_fm : -1 ≤ fm.toInt ∧ fm.toInt ≤ 800) (g_lm : -1 ≤ lm.toInt ∧ lm.toInt ≤ 800) (hT : HT 1024 1023 hsK fK1 fK2) (ho : (occ fK2 1024 : Int) ≤ lK.toInt) : Met l yX11_cost wsX11_cost ({ frames := 3, cells := 0, slots := 0, locals := 71 } : Room) (va_Pc [.ref oX, .int x, .int y, .int v] (fun U => U.heap.size = sz ∧ va_P (dC, dI) vwCl [(oX, .inr (11, [.ref nT, .ref nL, .ref nM, .ref oC, .ref oP, .ref oH, .ref oK, .ref oG, .ref oR, .ref oQ, .ref oW, .int fa])), (oK, .inr (3, [.ref k1, .ref k2, .int lK])), (k1, .inl (cI, 1024, .inl fK1)), (k2, .inl (cI, 1024, .inl fK2)), (oW, .inr (1, [.ref oC, .ref oK, .ref nw, .ref w1, .ref w2, .ref w3, .ref o7, .ref o8, .ref o9, .ref w4, .ref w5, .ref w6, .ref w7, .int ke, .int tl, .int fsh, .int wi, .int ri, .int fm, .int lm]))] U.heap ∧ va_K (dC, dI) vwCl [(cI, .int), (cS, .short)] U ∧ va_D (fun _ => True) [(oX, .inr (11, [.ref nT, .ref nL, .ref nM, .ref oC, .ref oP, .ref oH, .ref oK, .ref oG, .ref oR, .ref oQ, .ref oW, .int fa])), (oK, .inr (3, [.ref k1, .ref k2, .int lK])), (k1, .inl (cI, 1024, .inl fK1)), (k2, .inl (cI, 1024, .inl fK2)), (oW, .inr (1, [.ref oC, .ref oK, .ref nw, .ref w1, .ref w2, .ref w3, .ref o7, .ref o8, .ref o9, .ref w4, .ref w5, .ref w6, .ref w7, .int ke, .int tl, .int fsh, .int wi, .int ri, .int fm, .int lm]))])) (va_Qi (fun (r : Int32) (u : Int32) => r = u) (fun (r : Int32) t => ∃ (lK' : Int32) (fK1' : Nat → Int32) (fK2' : Nat → Int32) (fsh' : Int32), va_P (dC, dI) vwCl [(oX, .inr (11, [.ref nT, .ref nL, .ref nM, .ref oC, .ref oP, .ref oH, .ref oK, .ref oG, .ref oR, .ref oQ, .ref oW, .int fa])), (oK, .inr (3, [.ref k1, .ref k2, .int lK'])), (k1, .inl (cI, 1024, .inl fK1')), (k2, .inl (cI, 1024, .inl fK2')), (oW, .inr (1, [.ref oC, .ref oK, .ref nw, .ref w1, .ref w2, .ref w3, .ref o7, .ref o8, .ref o9, .ref w4, .ref w5, .ref w6, .ref w7, .int ke, .int tl, .int fsh', .int wi, .int ri, .int fm, .int lm]))] t.heap ∧ va_D (va_A [(oX, .inr (11, [.ref nT, .ref nL, .ref nM, .ref oC, .ref oP, .ref oH, .ref oK, .ref oG, .ref oR, .ref oQ, .ref oW, .int fa])), (oK, .inr (3, [.ref k1, .ref k2, .int lK])), (k1, .inl (cI, 1024, .inl fK1)), (k2, .inl (cI, 1024, .inl fK2)), (oW, .inr (1, [.ref oC, .ref oK, .ref nw, .ref w1, .ref w2, .ref w3, .ref o7, .ref o8, .ref o9, .ref w4, .ref w5, .ref w6, .ref w7, .int ke, .int tl, .int fsh, .int wi, .int ri, .int fm, .int lm]))] sz) [(oX, .inr (11, [.ref nT, .ref nL, .ref nM, .ref oC, .ref oP, .ref oH, .ref oK, .ref oG, .ref oR, .ref oQ, .ref oW, .int fa])), (oK, .inr (3, [.ref k1, .ref k2, .int lK'])), (k1, .inl (cI, 1024, .inl fK1')), (k2, .inl (cI, 1024, .inl fK2')), (oW, .inr (1, [.ref oC, .ref oK, .ref nw, .ref w1, .ref w2, .ref w3, .ref o7, .ref o8, .ref o9, .ref w4, .ref w5, .ref w6, .ref w7, .int ke, .int tl, .int fsh', .int wi, .int ri, .int fm, .int lm]))] ∧ (0 ≤ lK'.toInt ∧ lK'.toInt ≤ 300) ∧ (0 ≤ fsh'.toInt ∧ fsh'.toInt ≤ 1) ∧ (0 ≤ r.toInt ∧ r.toInt ≤ 1) ∧ (F_cst lK lK' r x y v fK1 fK1' fK2 fK2') ∧ (F_fs (0) r fsh fsh')) (va_A [(oX, .inr (11, [.ref nT, .ref nL, .ref nM, .ref oC, .ref oP, .ref oH, .ref oK, .ref oG, .ref oR, .ref oQ, .ref oW, .int fa])), (oK, .inr (3, [.ref k1, .ref k2, .int lK])), (k1, .inl (cI, 1024, .inl fK1)), (k2, .inl (cI, 1024, .inl fK2)), (oW, .inr (1, [.ref oC, .ref oK, .ref nw, .ref w1, .ref w2, .ref w3, .ref o7, .ref o8, .ref o9, .ref w4, .ref w5, .ref w6, .ref w7, .int ke, .int tl, .int fsh, .int wi, .int ri, .int fm, .int lm]))] sz)) 0 0 (va_A [(oX, .inr (11, [.ref nT, .ref nL, .ref nM, .ref oC, .ref oP, .ref oH, .ref oK, .ref oG, .ref oR, .ref oQ, .ref oW, .int fa])), (oK, .inr (3, [.ref k1, .ref k2, .int lK])), (k1, .inl (cI, 1024, .inl fK1)), (k2, .inl (cI, 1024, .inl fK2)), (oW, .inr (1, [.ref oC, .ref oK, .ref nw, .ref w1, .ref w2, .ref w3, .ref o7, .ref o8, .ref o9, .ref w4, .ref w5, .ref w6, .ref w7, .int ke, .int tl, .int fsh, .int wi, .int ri, .int fm, .int lm]))] sz) := by
  refine Met.ofW (cc := cX11_cost) (maxL := 4) (ret := (some .boolean)) (by decide) rfl ?_
  intro p e s m args below meth c s₁ B hml hv
  obtain ⟨rfl, hsz, hP, hK, hD0⟩ := hv
  have hx := B.exec
  have hb := B.bytes
  have hr := B.returns
  have hts := atoms_spec (ws := wsX11_cost) B.pre
  have hown : s.vm.findClass RX11 = some m.cls := findClass_of_methodNamed B.named
  have hlocks := B.notSynchronized
  have in_X11 : ∀ w ∈ wsX110, w ∈ wsX11_cost := fun _ h => List.mem_cons_of_mem _ (List.mem_append_left _ (List.mem_append_left _ (List.mem_append_right _ (h))))
  subst hsz
  have hD := hD0.self (sz := s.heap.size)
  generalize hAe : va_A [(oX, .inr (11, [.ref nT, .ref nL, .ref nM, .ref oC, .ref oP, .ref oH, .ref oK, .ref oG, .ref oR, .ref oQ, .ref oW, .int fa])), (oK, .inr (3, [.ref k1, .ref k2, .int lK])), (k1, .inl (cI, 1024, .inl fK1)), (k2, .inl (cI, 1024, .inl fK2)), (oW, .inr (1, [.ref oC, .ref oK, .ref nw, .ref w1, .ref w2, .ref w3, .ref o7, .ref o8, .ref o9, .ref w4, .ref w5, .ref w6, .ref w7, .int ke, .int tl, .int fsh, .int wi, .int ri, .int fm, .int lm]))] s.heap.size = A at hD ⊢
  have hA : ∀ q : Nat, s.heap.size ≤ q → A q := fun q h => by rw [← hAe]; exact Or.inr h
  have hS : va_S A s.heap s.heap [] := va_S.rf
  have hP : va_P (dC, dI) vwCl [(oX, .inr (11, [.ref nT, .ref nL, .ref nM, .ref oC, .ref oP, .ref oH, .ref oK, .ref oG, .ref oR, .ref oQ, .ref oW, .int fa])), (oK, .inr (3, [.ref k1, .ref k2, .int lK])), (k1, .inl (cI, 1024, .inl fK1)), (k2, .inl (cI, 1024, .inl fK2)), (oW, .inr (1, [.ref oC, .ref oK, .ref nw, .ref w1, .ref w2, .ref w3, .ref o7, .ref o8, .ref o9, .ref w4, .ref w5, .ref w6, .ref w7, .int ke, .int tl, .int fsh, .int wi, .int ri, .int fm, .int lm]))] s.heap := hP
  have hl := lv_entry ([.ref oX, .int x, .int y, .int v]) (n := 4) (Nat.le_of_ble_eq_true rfl)
  rw [lg_entry_eq]
  generalize (lg_sl ([.ref oX, .int x, .int y, .int v]) ++ List.replicate (4 - (lg_sl ([.ref oX, .int x, .int y, .int v])).length) Slot.unset).toArray = ls at hl ⊢
  have hl : lv_has ls 4 [(0, .ref oX), (1, .int x), (2, .int y), (3, .int v)] := hl
  obtain ⟨QQ, hQQ⟩ : ∃ QQ : Array Value → State → Outcome → State → Prop, QQ = va_Qi (fun (r : Int32) (u : Int32) => r = u) (fun (r : Int32) t => ∃ (lK' : Int32) (fK1' : Nat → Int32) (fK2' : Nat → Int32) (fsh' : Int32), va_P (dC, dI) vwCl [(oX, .inr (11, [.ref nT, .ref nL, .ref nM, .ref oC, .ref oP, .ref oH, .ref oK, .ref oG, .ref oR, .ref oQ, .ref oW, .int fa])), (oK, .inr (3, [.ref k1, .ref k2, .int lK'])), (k1, .inl (cI, 1024, .inl fK1')), (k2, .inl (cI, 1024, .inl fK2')), (oW, .inr (1, [.ref oC, .ref oK, .ref nw, .ref w1, .ref w2, .ref w3, .ref o7, .ref o8, .ref o9, .ref w4, .ref w5, .ref w6, .ref w7, .int ke, .int tl, .int fsh', .int wi, .int ri, .int fm, .int lm]))] t.heap ∧ va_D A [(oX, .inr (11, [.ref nT, .ref nL, .ref nM, .ref oC, .ref oP, .ref oH, .ref oK, .ref oG, .ref oR, .ref oQ, .ref oW, .int fa])), (oK, .inr (3, [.ref k1, .ref k2, .int lK'])), (k1, .inl (cI, 1024, .inl fK1')), (k2, .inl (cI, 1024, .inl fK2')), (oW, .inr (1, [.ref oC, .ref oK, .ref nw, .ref w1, .ref w2, .ref w3, .ref o7, .ref o8, .ref o9, .ref w4, .ref w5, .ref w6, .ref w7, .int ke, .int tl, .int fsh', .int wi, .int ri, .int fm, .int lm]))] ∧ (0 ≤ lK'.toInt ∧ lK'.toInt ≤ 300) ∧ (0 ≤ fsh'.toInt ∧ fsh'.toInt ≤ 1) ∧ (0 ≤ r.toInt ∧ r.toInt ≤ 1) ∧ (F_cst lK lK' r x y v fK1 fK1' fK2 fK2') ∧ (F_fs (0) r fsh fsh')) A := ⟨_, rfl⟩
  rw [← hQQ]
  refine lv_iload_n hx hb dX11_cost_0 rfl (lv_at hl 1 rfl) ?_
  have hPc := hP.sub (ws' := []) [] rfl
  have hDc := hD.sub (ws' := []) [] (by decide) rfl
  have hFc := va_free (wc := []) hD hS hA [] rfl
  refine va_calli (va_runS (As := [.int x]) (rest := []) ⟨hx, hb, hml, hown, hts⟩ (m_X11_isLetter l dC dI cI cS s.heap.size x ) (va_cwS 1 hts gX11_cost_X11_isLetter rfl rfl rfl (by decide +kernel) ⟨Nat.le_of_ble_eq_true rfl, Nat.le_of_ble_eq_true rfl⟩) ⟨fun a U g mk q => by obtain ⟨q0, q1, qP, qK, qD⟩ := q; exact ⟨q0, q1, qP, va_K.moved (u := U) (U := U.calling g mk a) (Vm.Alike.refl U.vm) qK, qD⟩, fun U hU hW => ⟨rfl, by rw [hU], by rw [hU]; exact hPc, va_K.moved hW.alike hK, hDc.weaken (fun _ _ _ _ => trivial)⟩⟩ rfl rfl hl.1 rfl (lv_room (Nat.le_of_ble_eq_true rfl)) dX11_cost_1 ⟨Nat.le_of_ble_eq_true rfl, Nat.le_of_ble_eq_true rfl⟩) hS (fun q _ h => hFc q h) hFc (fun r_1 u t H1 locs ht hvm hw hB hz1 hk1 hS => ?_)
  subst hw
  obtain ⟨hP1, hD1, hf1_0, hf1_1⟩ := hB
  rw [ht] at hP1
  obtain ⟨hP, hD⟩ := va_join (wr := [(oX, .inr (11, [.ref nT, .ref nL, .ref nM, .ref oC, .ref oP, .ref oH, .ref oK, .ref oG, .ref oR, .ref oQ, .ref oW, .int fa])), (oK, .inr (3, [.ref k1, .ref k2, .int lK])), (k1, .inl (cI, 1024, .inl fK1)), (k2, .inl (cI, 1024, .inl fK2)), (oW, .inr (1, [.ref oC, .ref oK, .ref nw, .ref w1, .ref w2, .ref w3, .ref o7, .ref o8, .ref o9, .ref w4, .ref w5, .ref w6, .ref w7, .int ke, .int tl, .int fsh, .int wi, .int ri, .int fm, .int lm]))]) (w1 := []) hP hD [] [0, 1, 2, 3, 4] rfl rfl (by decide) (by decide) hk1 hFc hP1 hD1
  generalize H1 = H at hP hS ⊢
  have hP : va_P (dC, dI) vwCl [(oX, .inr (11, [.ref nT, .ref nL, .ref nM, .ref oC, .ref oP, .ref oH, .ref oK, .ref oG, .ref oR, .ref oQ, .ref oW, .int fa])), (oK, .inr (3, [.ref k1, .ref k2, .int lK])), (k1, .inl (cI, 1024, .inl fK1)), (k2, .inl (cI, 1024, .inl fK2)), (oW, .inr (1, [.ref oC, .ref oK, .ref nw, .ref w1, .ref w2, .ref w3, .ref o7, .ref o8, .ref o9, .ref w4, .ref w5, .ref w6, .ref w7, .int ke, .int tl, .int fsh, .int wi, .int ri, .int fm, .int lm]))] H := hP
  have hD : va_D A [(oX, .inr (11, [.ref nT, .ref nL, .ref nM, .ref oC, .ref oP, .ref oH, .ref oK, .ref oG, .ref oR, .ref oQ, .ref oW, .int fa])), (oK, .inr (3, [.ref k1, .ref k2, .int lK])), (k1, .inl (cI, 1024, .inl fK1)), (k2, .inl (cI, 1024, .inl fK2)), (oW, .inr (1, [.ref oC, .ref oK, .ref nw, .ref w1, .ref w2, .ref w3, .ref o7, .ref o8, .ref o9, .ref w4, .ref w5, .ref w6, .ref w7, .int ke, .int tl, .int fsh, .int wi, .int ri, .int fm, .int lm]))] := hD
  refine lv_if_eq (tgt := 27) hx hb dX11_cost_4 (by decide) (fun c_2 => ?_) (fun c_2 => ?_)
  · have tc_2 : r_1.toInt = 0 := v_eq c_2
    refine lv_iconst (v := 0) hx hb dX11_cost_27 (by decide) ?_
    have hP9 := hP.sub (ws' := [(oX, .inr (11, [.ref nT, .ref nL, .ref nM, .ref oC, .ref oP, .ref oH, .ref oK, .ref oG, .ref oR, .ref oQ, .ref oW, .int fa])), (oK, .inr (3, [.ref k1, .ref k2, .int lK])), (k1, .inl (cI, 1024, .inl fK1)), (k2, .inl (cI, 1024, .inl fK2)), (oW, .inr (1, [.ref oC, .ref oK, .ref nw, .ref w1, .ref w2, .ref w3, .ref o7, .ref o8, .ref o9, .ref w4, .ref w5, .ref w6, .ref w7, .int ke, .int tl, .int fsh, .int wi, .int ri, .int fm, .int lm]))]) [0, 1, 2, 3, 4] rfl
    have hD9 := hD.sub (ws' := [(oX, .inr (11, [.ref nT, .ref nL, .ref nM, .ref oC, .ref oP, .ref oH, .ref oK, .ref oG, .ref oR, .ref oQ, .ref oW, .int fa])), (oK, .inr (3, [.ref k1, .ref k2, .int lK])), (k1, .inl (cI, 1024, .inl fK1)), (k2, .inl (cI, 1024, .inl fK2)), (oW, .inr (1, [.ref oC, .ref oK, .ref nw, .ref w1, .ref w2, .ref w3, .ref o7, .ref o8, .ref o9, .ref w4, .ref w5, .ref w6, .ref w7, .int ke, .int tl, .int fsh, .int wi, .int ri, .int fm, .int lm]))]) [0, 1, 2, 3, 4] (by decide) rfl
    rw [hQQ]
    exact W.zret (v := 0) (ty := .boolean) hx hb hr (rfl) (fun t ht hW => ⟨⟨0, 0, rfl, rfl, ⟨lK, fK1, fK2, fsh, by rw [ht]; exact hP9, hD9, by omega, by omega, by decide, Or.inr ⟨rfl, by unfold isLq; omega, rfl, rfl, rfl⟩, Or.inl ⟨by first | rfl | omega, rfl⟩⟩⟩, hS.F ht⟩) hS.2.2 dX11_cost_28
  · have tc_2 : ¬ r_1.toInt = 0 := v_ne c_2
    refine lv_iload_n hx hb dX11_cost_7 rfl (lv_at hl 2 rfl) ?_
    have hPc := hP.sub (ws' := []) [] rfl
    have hDc := hD.sub (ws' := []) [] (by decide) rfl
    have hFc := va_free (wc := []) hD hS hA [] rfl
    refine va_calli (va_runS (As := [.int y]) (rest := []) ⟨hx, hb, hml, hown, hts⟩ (m_X11_isLetter l dC dI cI cS H.size y ) (va_cwS 1 hts gX11_cost_X11_isLetter rfl rfl rfl (by decide +kernel) ⟨Nat.le_of_ble_eq_true rfl, Nat.le_of_ble_eq_true rfl⟩) ⟨fun a U g mk q => by obtain ⟨q0, q1, qP, qK, qD⟩ := q; exact ⟨q0, q1, qP, va_K.moved (u := U) (U := U.calling g mk a) (Vm.Alike.refl U.vm) qK, qD⟩, fun U hU hW => ⟨rfl, by rw [hU], by rw [hU]; exact hPc, va_K.moved hW.alike hK, hDc.weaken (fun _ _ _ _ => trivial)⟩⟩ rfl rfl hl.1 rfl (lv_room (Nat.le_of_ble_eq_true rfl)) dX11_cost_8 ⟨Nat.le_of_ble_eq_true rfl, Nat.le_of_ble_eq_true rfl⟩) hS (fun q _ h => hFc q h) hFc (fun r_3 u t H1 locs ht hvm hw hB hz1 hk1 hS => ?_)
    subst hw
    obtain ⟨hP1, hD1, hf3_0, hf3_1⟩ := hB
    rw [ht] at hP1
    obtain ⟨hP, hD⟩ := va_join (wr := [(oX, .inr (11, [.ref nT, .ref nL, .ref nM, .ref oC, .ref oP, .ref oH, .ref oK, .ref oG, .ref oR, .ref oQ, .ref oW, .int fa])), (oK, .inr (3, [.ref k1, .ref k2, .int lK])), (k1, .inl (cI, 1024, .inl fK1)), (k2, .inl (cI, 1024, .inl fK2)), (oW, .inr (1, [.ref oC, .ref oK, .ref nw, .ref w1, .ref w2, .ref w3, .ref o7, .ref o8, .ref o9, .ref w4, .ref w5, .ref w6, .ref w7, .int ke, .int tl, .int fsh, .int wi, .int ri, .int fm, .int lm]))]) (w1 := []) hP hD [] [0, 1, 2, 3, 4] rfl rfl (by decide) (by decide) hk1 hFc hP1 hD1
    generalize H1 = H at hP hS ⊢
    have hP : va_P (dC, dI) vwCl [(oX, .inr (11, [.ref nT, .ref nL, .ref nM, .ref oC, .ref oP, .ref oH, .ref oK, .ref oG, .ref oR, .ref oQ, .ref oW, .int fa])), (oK, .inr (3, [.ref k1, .ref k2, .int lK])), (k1, .inl (cI, 1024, .inl fK1)), (k2, .inl (cI, 1024, .inl fK2)), (oW, .inr (1, [.ref oC, .ref oK, .ref nw, .ref w1, .ref w2, .ref w3, .ref o7, .ref o8, .ref o9, .ref w4, .ref w5, .ref w6, .ref w7, .int ke, .int tl, .int fsh, .int wi, .int ri, .int fm, .int lm]))] H := hP
    have hD : va_D A [(oX, .inr (11, [.ref nT, .ref nL, .ref nM, .ref oC, .ref oP, .ref oH, .ref oK, .ref oG, .ref oR, .ref oQ, .ref oW, .int fa])), (oK, .inr (3, [.ref k1, .ref k2, .int lK])), (k1, .inl (cI, 1024, .inl fK1)), (k2, .inl (cI, 1024, .inl fK2)), (oW, .inr (1, [.ref oC, .ref oK, .ref nw, .ref w1, .ref w2, .ref w3, .ref o7, .ref o8, .ref o9, .ref w4, .ref w5, .ref w6, .ref w7, .int ke, .int tl, .int fsh, .int wi, .int ri, .int fm, .int lm]))] := hD
    refine lv_if_eq (tgt := 27) hx hb dX11_cost_11 (by decide) (fun c_4 => ?_) (fun c_4 => ?_)
    · have tc_4 : r_3.toInt = 0 := v_eq c_4
      refine lv_iconst (v := 0) hx hb dX11_cost_27 (by decide) ?_
      have hP9 := hP.sub (ws' := [(oX, .inr (11, [.ref nT, .ref nL, .ref nM, .ref oC, .ref oP, .ref oH, .ref oK, .ref oG, .ref oR, .ref oQ, .ref oW, .int fa])), (oK, .inr (3, [.ref k1, .ref k2, .int lK])), (k1, .inl (cI, 1024, .inl fK1)), (k2, .inl (cI, 1024, .inl fK2)), (oW, .inr (1, [.ref oC, .ref oK, .ref nw, .ref w1, .ref w2, .ref w3, .ref o7, .ref o8, .ref o9, .ref w4, .ref w5, .ref w6, .ref w7, .int ke, .int tl, .int fsh, .int wi, .int ri, .int fm, .int lm]))]) [0, 1, 2, 3, 4] rfl
      have hD9 := hD.sub (ws' := [(oX, .inr (11, [.ref nT, .ref nL, .ref nM, .ref oC, .ref oP, .ref oH, .ref oK, .ref oG, .ref oR, .ref oQ, .ref oW, .int fa])), (oK, .inr (3, [.ref k1, .ref k2, .int lK])), (k1, .inl (cI, 1024, .inl fK1)), (k2, .inl (cI, 1024, .inl fK2)), (oW, .inr (1, [.ref oC, .ref oK, .ref nw, .ref w1, .ref w2, .ref w3, .ref o7, .ref o8, .ref o9, .ref w4, .ref w5, .ref w6, .ref w7, .int ke, .int tl, .int fsh, .int wi, .int ri, .int fm, .int lm]))]) [0, 1, 2, 3, 4] (by decide) rfl
      rw [hQQ]
      exact W.zret (v := 0) (ty := .boolean) hx hb hr (rfl) (fun t ht hW => ⟨⟨0, 0, rfl, rfl, ⟨lK, fK1, fK2, fsh, by rw [ht]; exact hP9, hD9, by omega, by omega, by decide, Or.inr ⟨rfl, by unfold isLq; omega, rfl, rfl, rfl⟩, Or.inl ⟨by first | rfl | omega, rfl⟩⟩⟩, hS.F ht⟩) hS.2.2 dX11_cost_28
    · have tc_4 : ¬ r_3.toInt = 0 := v_ne c_4
      refine lv_aload_n hx hb dX11_cost_14 rfl (lv_at hl 0 rfl) ?_
      refine va_get (D := (dC, dI)) (ci := 11) (v := .ref oK) (C := RX11) (T := TX11) (N := 12) hx hb hts in_X11 hown hK hP 0 rfl rfl 6 (by decide) (hts (.fieldLink RX11 52 "TextMender" "costs" "LTextMender$Costs;") (List.mem_of_getElem? (i := 1) rfl)) (fun _ h9 => h9) rfl dX11_cost_15 ?_
      refine lv_iload_n hx hb dX11_cost_18 rfl (lv_at hl 1 rfl) ?_
      refine lv_iload_n hx hb dX11_cost_19 rfl (lv_at hl 2 rfl) ?_
      refine lv_iload_n hx hb dX11_cost_20 rfl (lv_at hl 3 rfl) ?_
      have hPc := hP.sub (ws' := [(oK, .inr (3, [.ref k1, .ref k2, .int lK])), (k1, .inl (cI, 1024, .inl fK1)), (k2, .inl (cI, 1024, .inl fK2))]) [1, 2, 3] rfl
      have hDc := hD.sub (ws' := [(oK, .inr (3, [.ref k1, .ref k2, .int lK])), (k1, .inl (cI, 1024, .inl fK1)), (k2, .inl (cI, 1024, .inl fK2))]) [1, 2, 3] (by decide) rfl
      have hFc := va_free (wc := [(oK, .inr (3, [.ref k1, .ref k2, .int lK])), (k1, .inl (cI, 1024, .inl fK1)), (k2, .inl (cI, 1024, .inl fK2))]) hD hS hA [1, 2, 3] rfl
      refine va_calli (va_runV (As := [.int x, .int y, .int v]) (rest := []) ⟨hx, hb, hml, hown, hts⟩ (f_X3_tell l dC dI cI cS H.size oK k1 k2 lK fK1 fK2 x y v (by omega) (hT) (ho)) (cwV 3 hts gX11_cost_X3_tell rfl rfl rfl (by decide +kernel) ⟨Nat.le_of_ble_eq_true rfl, Nat.le_of_ble_eq_true rfl⟩) ⟨fun a U g mk q => by obtain ⟨q0, q1, qP, qK, qD⟩ := q; exact ⟨q0, q1, qP, va_K.moved (u := U) (U := U.calling g mk a) (Vm.Alike.refl U.vm) qK, qD⟩, va_recv hK hPc (ci := 3) (q0 := 0) rfl rfl, fun U hU hW => ⟨rfl, by rw [hU], by rw [hU]; exact hPc, va_K.moved hW.alike hK, hDc.weaken (fun _ _ _ _ => trivial)⟩⟩ rfl rfl hl.1 rfl (lv_room (Nat.le_of_ble_eq_true rfl)) dX11_cost_21 ⟨Nat.le_of_ble_eq_true rfl, Nat.le_of_ble_eq_true rfl⟩) hS (fun q _ h => hFc q h) hFc (fun r_5 u t H1 locs ht hvm hw hB hz1 hk1 hS => ?_)
      subst hw
      obtain ⟨lK_5, fK1_5, fK2_5, hP1, hD1, hf5_0, hf5_1, hf5_2⟩ := hB
      rw [ht] at hP1
      obtain ⟨hP, hD⟩ := va_join (wr := [(oX, .inr (11, [.ref nT, .ref nL, .ref nM, .ref oC, .ref oP, .ref oH, .ref oK, .ref oG, .ref oR, .ref oQ, .ref oW, .int fa])), (oW, .inr (1, [.ref oC, .ref oK, .ref nw, .ref w1, .ref w2, .ref w3, .ref o7, .ref o8, .ref o9, .ref w4, .ref w5, .ref w6, .ref w7, .int ke, .int tl, .int fsh, .int wi, .int ri, .int fm, .int lm]))]) (w1 := [(oK, .inr (3, [.ref k1, .ref k2, .int lK_5])), (k1, .inl (cI, 1024, .inl fK1_5)), (k2, .inl (cI, 1024, .inl fK2_5))]) hP hD [1, 2, 3] [0, 4] rfl rfl (by decide) (by decide) hk1 hFc hP1 hD1
      generalize H1 = H at hP hS ⊢
      have hP : va_P (dC, dI) vwCl [(oX, .inr (11, [.ref nT, .ref nL, .ref nM, .ref oC, .ref oP, .ref oH, .ref oK, .ref oG, .ref oR, .ref oQ, .ref oW, .int fa])), (oW, .inr (1, [.ref oC, .ref oK, .ref nw, .ref w1, .ref w2, .ref w3, .ref o7, .ref o8, .ref o9, .ref w4, .ref w5, .ref w6, .ref w7, .int ke, .int tl, .int fsh, .int wi, .int ri, .int fm, .int lm])), (oK, .inr (3, [.ref k1, .ref k2, .int lK_5])), (k1, .inl (cI, 1024, .inl fK1_5)), (k2, .inl (cI, 1024, .inl fK2_5))] H := hP
      have hD : va_D A [(oX, .inr (11, [.ref nT, .ref nL, .ref nM, .ref oC, .ref oP, .ref oH, .ref oK, .ref oG, .ref oR, .ref oQ, .ref oW, .int fa])), (oW, .inr (1, [.ref oC, .ref oK, .ref nw, .ref w1, .ref w2, .ref w3, .ref o7, .ref o8, .ref o9, .ref w4, .ref w5, .ref w6, .ref w7, .int ke, .int tl, .int fsh, .int wi, .int ri, .int fm, .int lm])), (oK, .inr (3, [.ref k1, .ref k2, .int lK_5])), (k1, .inl (cI, 1024, .inl fK1_5)), (k2, .inl (cI, 1024, .inl fK2_5))] := hD
      refine lv_if_ne (tgt := 29) hx hb dX11_cost_24 (by decide) (fun c_6 => ?_) (fun c_6 => ?_)
      · have tc_6 : ¬ r_5.toInt = 0 := v_ne c_6
        refine lv_aload_n hx hb dX11_cost_29 rfl (lv_at hl 0 rfl) ?_
        refine va_get (D := (dC, dI)) (ci := 11) (v := .ref oW) (C := RX11) (T := TX11) (N := 12) hx hb hts in_X11 hown hK hP 0 rfl rfl 10 (by decide) (hts (.fieldLink RX11 86 "TextMender" "choiceBook" "LTextMender$Choices;") (List.mem_of_getElem? (i := 2) rfl)) (fun _ h9 => h9) rfl dX11_cost_30 ?_
        have hPc := hP.sub (ws' := [(oW, .inr (1, [.ref oC, .ref oK, .ref nw, .ref w1, .ref w2, .ref w3, .ref o7, .ref o8, .ref o9, .ref w4, .ref w5, .ref w6, .ref w7, .int ke, .int tl, .int fsh, .int wi, .int ri, .int fm, .int lm]))]) [1] rfl
        have hDc := hD.sub (ws' := [(oW, .inr (1, [.ref oC, .ref oK, .ref nw, .ref w1, .ref w2, .ref w3, .ref o7, .ref o8, .ref o9, .ref w4, .ref w5, .ref w6, .ref w7, .int ke, .int tl, .int fsh, .int wi, .int ri, .int fm, .int lm]))]) [1] (by decide) rfl
        have hFc := va_free (wc := [(oW, .inr (1, [.ref oC, .ref oK, .ref nw, .ref w1, .ref w2, .ref w3, .ref o7, .ref o8, .ref o9, .ref w4, .ref w5, .ref w6, .ref w7, .int ke, .int tl, .int fsh, .int wi, .int ri, .int fm, .int lm]))]) hD hS hA [1] rfl
        refine va_callv (va_runV (As := []) (rest := []) ⟨hx, hb, hml, hown, hts⟩ (f_X1_forgetFreshness l dC dI cI cS H.size oW oC oK nw w1 w2 w3 o7 o8 o9 w4 w5 w6 w7 ke tl fsh wi ri fm lm (by omega) (by omega) (by omega) (by omega)) (cwV 0 hts gX11_cost_X1_forgetFreshness rfl rfl rfl (by decide +kernel) ⟨Nat.le_of_ble_eq_true rfl, Nat.le_of_ble_eq_true rfl⟩) ⟨fun a U g mk q => by obtain ⟨q0, q1, qP, qK, qD⟩ := q; exact ⟨q0, q1, qP, va_K.moved (u := U) (U := U.calling g mk a) (Vm.Alike.refl U.vm) qK, qD⟩, va_recv hK hPc (ci := 1) (q0 := 0) rfl rfl, fun U hU hW => ⟨rfl, by rw [hU], by rw [hU]; exact hPc, va_K.moved hW.alike hK, hDc.weaken (fun _ _ _ _ => trivial)⟩⟩ rfl rfl hl.1 rfl (lv_room (Nat.le_of_ble_eq_true rfl)) dX11_cost_33 ⟨Nat.le_of_ble_eq_true rfl, Nat.le_of_ble_eq_true rfl⟩) hS (fun q _ h => hFc q h) hFc (fun u t H1 locs ht hvm hw hB hz1 hk1 hS => ?_)
        obtain ⟨fsh_7, hP1, hD1, hf7_0, hf7_1⟩ := hB
        rw [ht] at hP1
        obtain ⟨hP, hD⟩ := va_join (wr := [(oX, .inr (11, [.ref nT, .ref nL, .ref nM, .ref oC, .ref oP, .ref oH, .ref oK, .ref oG, .ref oR, .ref oQ, .ref oW, .int fa])), (oK, .inr (3, [.ref k1, .ref k2, .int lK_5])), (k1, .inl (cI, 1024, .inl fK1_5)), (k2, .inl (cI, 1024, .inl fK2_5))]) (w1 := [(oW, .inr (1, [.ref oC, .ref oK, .ref nw, .ref w1, .ref w2, .ref w3, .ref o7, .ref o8, .ref o9, .ref w4, .ref w5, .ref w6, .ref w7, .int ke, .int tl, .int fsh_7, .int wi, .int ri, .int fm, .int lm]))]) hP hD [1] [0, 2, 3, 4] rfl rfl (by decide) (by decide) hk1 hFc hP1 hD1
        generalize H1 = H at hP hS ⊢
        have hP : va_P (dC, dI) vwCl [(oX, .inr (11, [.ref nT, .ref nL, .ref nM, .ref oC, .ref oP, .ref oH, .ref oK, .ref oG, .ref oR, .ref oQ, .ref oW, .int fa])), (oK, .inr (3, [.ref k1, .ref k2, .int lK_5])), (k1, .inl (cI, 1024, .inl fK1_5)), (k2, .inl (cI, 1024, .inl fK2_5)), (oW, .inr (1, [.ref oC, .ref oK, .ref nw, .ref w1, .ref w2, .ref w3, .ref o7, .ref o8, .ref o9, .ref w4, .ref w5, .ref w6, .ref w7, .int ke, .int tl, .int fsh_7, .int wi, .int ri, .int fm, .int lm]))] H := hP
        have hD : va_D A [(oX, .inr (11, [.ref nT, .ref nL, .ref nM, .ref oC, .ref oP, .ref oH, .ref oK, .ref oG, .ref oR, .ref oQ, .ref oW, .int fa])), (oK, .inr (3, [.ref k1, .ref k2, .int lK_5])), (k1, .inl (cI, 1024, .inl fK1_5)), (k2, .inl (cI, 1024, .inl fK2_5)), (oW, .inr (1, [.ref oC, .ref oK, .ref nw, .ref w1, .ref w2, .ref w3, .ref o7, .ref o8, .ref o9, .ref w4, .ref w5, .ref w6, .ref w7, .int ke, .int tl, .int fsh_7, .int wi, .int ri, .int fm, .int lm]))] := hD
        refine lv_iconst (v := 1) hx hb dX11_cost_36 (by decide) ?_
        have hP9 := hP.sub (ws' := [(oX, .inr (11, [.ref nT, .ref nL, .ref nM, .ref oC, .ref oP, .ref oH, .ref oK, .ref oG, .ref oR, .ref oQ, .ref oW, .int fa])), (oK, .inr (3, [.ref k1, .ref k2, .int lK_5])), (k1, .inl (cI, 1024, .inl fK1_5)), (k2, .inl (cI, 1024, .inl fK2_5)), (oW, .inr (1, [.ref oC, .ref oK, .ref nw, .ref w1, .ref w2, .ref w3, .ref o7, .ref o8, .ref o9, .ref w4, .ref w5, .ref w6, .ref w7, .int ke, .int tl, .int fsh_7, .int wi, .int ri, .int fm, .int lm]))]) [0, 1, 2, 3, 4] rfl
        have hD9 := hD.sub (ws' := [(oX, .inr (11, [.ref nT, .ref nL, .ref nM, .ref oC, .ref oP, .ref oH, .ref oK, .ref oG, .ref oR, .ref oQ, .ref oW, .int fa])), (oK, .inr (3, [.ref k1, .ref k2, .int lK_5])), (k1, .inl (cI, 1024, .inl fK1_5)), (k2, .inl (cI, 1024, .inl fK2_5)), (oW, .inr (1, [.ref oC, .ref oK, .ref nw, .ref w1, .ref w2, .ref w3, .ref o7, .ref o8, .ref o9, .ref w4, .ref w5, .ref w6, .ref w7, .int ke, .int tl, .int fsh_7, .int wi, .int ri, .int fm, .int lm]))]) [0, 1, 2, 3, 4] (by decide) rfl
        rw [hQQ]
        exact W.zret (v := 1) (ty := .boolean) hx hb hr (rfl) (fun t ht hW => ⟨⟨1, 1, rfl, rfl, ⟨lK_5, fK1_5, fK2_5, fsh_7, by rw [ht]; exact hP9, hD9, by omega, by omega, by decide, Or.inl ⟨by unfold isLq; omega, by unfold isLq; omega, (v_inj (by first | omega | (show _ = (1 : Int); omega) | (show _ = (0 : Int); omega)) : r_5 = 1) ▸ hf5_2⟩, Or.inr ⟨by first | decide | omega, hf7_1⟩⟩⟩, hS.F ht⟩) hS.2.2 dX11_cost_37
      · have tc_6 : r_5.toInt = 0 := v_eq c_6
        refine lv_iconst (v := 0) hx hb dX11_cost_27 (by decide) ?_
        have hP9 := hP.sub (ws' := [(oX, .inr (11, [.ref nT, .ref nL, .ref nM, .ref oC, .ref oP, .ref oH, .ref oK, .ref oG, .ref oR, .ref oQ, .ref oW, .int fa])), (oK, .inr (3, [.ref k1, .ref k2, .int lK_5])), (k1, .inl (cI, 1024, .inl fK1_5)), (k2, .inl (cI, 1024, .inl fK2_5)), (oW, .inr (1, [.ref oC, .ref oK, .ref nw, .ref w1, .ref w2, .ref w3, .ref o7, .ref o8, .ref o9, .ref w4, .ref w5, .ref w6, .ref w7, .int ke, .int tl, .int fsh, .int wi, .int ri, .int fm, .int lm]))]) [0, 2, 3, 4, 1] rfl
        have hD9 := hD.sub (ws' := [(oX, .inr (11, [.ref nT, .ref nL, .ref nM, .ref oC, .ref oP, .ref oH, .ref oK, .ref oG, .ref oR, .ref oQ, .ref oW, .int fa])), (oK, .inr (3, [.ref k1, .ref k2, .int lK_5])), (k1, .inl (cI, 1024, .inl fK1_5)), (k2, .inl (cI, 1024, .inl fK2_5)), (oW, .inr (1, [.ref oC, .ref oK, .ref nw, .ref w1, .ref w2, .ref w3, .ref o7, .ref o8, .ref o9, .ref w4, .ref w5, .ref w6, .ref w7, .int ke, .int tl, .int fsh, .int wi, .int ri, .int fm, .int lm]))]) [0, 2, 3, 4, 1] (by decide) rfl
        rw [hQQ]
        exact W.zret (v := 0) (ty := .boolean) hx hb hr (rfl) (fun t ht hW => ⟨⟨0, 0, rfl, rfl, ⟨lK_5, fK1_5, fK2_5, fsh, by rw [ht]; exact hP9, hD9, by omega, by omega, by decide, Or.inl ⟨by unfold isLq; omega, by unfold isLq; omega, (v_inj (by first | omega | (show _ = (1 : Int); omega) | (show _ = (0 : Int); omega)) : r_5 = 0) ▸ hf5_2⟩, Or.inl ⟨by first | rfl | omega, rfl⟩⟩⟩, hS.F ht⟩) hS.2.2 dX11_cost_28

set_option maxHeartbeats 40000000 in
set_option maxRecDepth 100000 in
theorem f_X12_cost (l : Launch) (dC : Nat → ClassId) (dI : Nat → Nat → Nat) (cI cS : ClassId) (sz : Nat) (oM : Nat) (mT : Nat) (mS : Nat) (mX : Nat) (mL : Nat) (mB : Nat) (mD : Nat) (m1 : Nat) (m2 : Nat) (mR : Nat) (x1 : Nat) (x2 : Nat) (x3 : Nat) (mH : Nat) (mY : Nat) (mE : Nat) (mW : Nat) (mO : Nat) (y1 : Nat) (y2 : Nat) (y3 : Nat) (y4 : Nat) (mZ : Nat) (zt : Int32) (zp : Int32) (zf : Int32) (zh : Int32) (zr : Int32) (zc : Int32) (zy : Int32) (za : Int32) (zb : Int32) (zs : Int32) (zq : Int32) (zw : Int32) (ze : Int32) (zn : Int32) (zm : Int32) (zl : Int32) (zk : Int32) (zd : Int32) (ec1 : Nat → Int32) (ec2 : Nat → Int32) (ec3 : Nat → Int32) (x : Int32) (y : Int32) (v : Int32) (g_zt : 0 ≤ zt.toInt ∧ zt.toInt ≤ 900) (g_zp : 0 ≤ zp.toInt ∧ zp.toInt ≤ 20) (g_zf : 0 ≤ zf.toInt ∧ zf.toInt ≤ 19) (g_zh : 0 ≤ zh.toInt ∧ zh.toInt ≤ 6) (g_zr : 0 ≤ zr.toInt ∧ zr.toInt ≤ 258) (g_zc : 0 ≤ zc.toInt ∧ zc.toInt ≤ 300) (g_zy : 0 ≤ zy.toInt ∧ zy.toInt ≤ 65536) (g_za : 0 ≤ za.toInt ∧ za.toInt ≤ 5) (g_zb : 0 ≤ zb.toInt ∧ zb.toInt ≤ 5) (g_zs : 0 ≤ zs.toInt ∧ zs.toInt ≤ 2000000) (g_zq : -1 ≤ zq.toInt ∧ zq.toInt ≤ 2000000) (g_zn : 0 ≤ zn.toInt ∧ zn.toInt ≤ 2600) (g_zm : 0 ≤ zm.toInt ∧ zm.toInt ≤ 2600) (g_zk : 0 ≤ zk.toInt ∧ zk.toInt ≤ 300) (hzs : zs.toInt ≤ 1000000) : Met l yX12_cost wsX12_cost ({ frames := 1, cells := 0, slots := 0, locals := 20 } : Room) (va_Pc [.ref oM, .int x, .int y, .int v] (fun U => U.heap.size = sz ∧ va_P (dC, dI) vwCl [(oM, .inr (12, [.ref mT, .int zt, .ref mS, .ref mX, .int zp, .int zf, .ref mL, .ref mB, .ref mD, .ref m1, .ref m2, .int zh, .ref mR, .int zr, .ref x1, .ref x2, .ref x3, .int zc, .ref mH, .int zy, .int za, .int zb, .int zs, .int zq, .int zw, .int ze, .ref mY, .int zn, .ref mE, .int zm, .int zl, .ref mW, .int zk, .ref mO, .int zd, .ref y1, .ref y2, .ref y3, .ref y4, .ref mZ])), (x1, .inl (cI, 300, .inl ec1)), (x2, .inl (cI, 300, .inl ec2)), (x3, .inl (cI, 300, .inl ec3))] U.heap ∧ va_K (dC, dI) vwCl [(cI, .int), (cS, .short)] U ∧ va_D (fun _ => True) [(oM, .inr (12, [.ref mT, .int zt, .ref mS, .ref mX, .int zp, .int zf, .ref mL, .ref mB, .ref mD, .ref m1, .ref m2, .int zh, .ref mR, .int zr, .ref x1, .ref x2, .ref x3, .int zc, .ref mH, .int zy, .int za, .int zb, .int zs, .int zq, .int zw, .int ze, .ref mY, .int zn, .ref mE, .int zm, .int zl, .ref mW, .int zk, .ref mO, .int zd, .ref y1, .ref y2, .ref y3, .ref y4, .ref mZ])), (x1, .inl (cI, 300, .inl ec1)), (x2, .inl (cI, 300, .inl ec2)), (x3, .inl (cI, 300, .inl ec3))])) (va_Qi (fun (r : Int32) (u : Int32) => r = u) (fun (r : Int32) t => ∃ (ze' : Int32) (zc' : Int32) (ec1' : Nat → Int32) (ec2' : Nat → Int32) (ec3' : Nat → Int32) (zs' : Int32), va_P (dC, dI) vwCl [(oM, .inr (12, [.ref mT, .int zt, .ref mS, .ref mX, .int zp, .int zf, .ref mL, .ref mB, .ref mD, .ref m1, .ref m2, .int zh, .ref mR, .int zr, .ref x1, .ref x2, .ref x3, .int zc', .ref mH, .int zy, .int za, .int zb, .int zs', .int zq, .int zw, .int ze', .ref mY, .int zn, .ref mE, .int zm, .int zl, .ref mW, .int zk, .ref mO, .int zd, .ref y1, .ref y2, .ref y3, .ref y4, .ref mZ])), (x1, .inl (cI, 300, .inl ec1')), (x2, .inl (cI, 300, .inl ec2')), (x3, .inl (cI, 300, .inl ec3'))] t.heap ∧ va_D (va_A [(oM, .inr (12, [.ref mT, .int zt, .ref mS, .ref mX, .int zp, .int zf, .ref mL, .ref mB, .ref mD, .ref m1, .ref m2, .int zh, .ref mR, .int zr, .ref x1, .ref x2, .ref x3, .int zc, .ref mH, .int zy, .int za, .int zb, .int zs, .int zq, .int zw, .int ze, .ref mY, .int zn, .ref mE, .int zm, .int zl, .ref mW, .int zk, .ref mO, .int zd, .ref y1, .ref y2, .ref y3, .ref y4, .ref mZ])), (x1, .inl (cI, 300, .inl ec1)), (x2, .inl (cI, 300, .inl ec2)), (x3, .inl (cI, 300, .inl ec3))] sz) [(oM, .inr (12, [.ref mT, .int zt, .ref mS, .ref mX, .int zp, .int zf, .ref mL, .ref mB, .ref mD, .ref m1, .ref m2, .int zh, .ref mR, .int zr, .ref x1, .ref x2, .ref x3, .int zc', .ref mH, .int zy, .int za, .int zb, .int zs', .int zq, .int zw, .int ze', .ref mY, .int zn, .ref mE, .int zm, .int zl, .ref mW, .int zk, .ref mO, .int zd, .ref y1, .ref y2, .ref y3, .ref y4, .ref mZ])), (x1, .inl (cI, 300, .inl ec1')), (x2, .inl (cI, 300, .inl ec2')), (x3, .inl (cI, 300, .inl ec3'))] ∧ (0 ≤ zc'.toInt ∧ zc'.toInt ≤ 300) ∧ (0 ≤ zs'.toInt ∧ zs'.toInt ≤ 2000000) ∧ (0 ≤ r.toInt ∧ r.toInt ≤ 1) ∧ (zs'.toInt ≤ zs.toInt + 1 ∧ zs.toInt ≤ zs'.toInt) ∧ (F_ck zc zc' r x y v ec1 ec1' ec2 ec2' ec3 ec3') ∧ (F_zs (0) r zs zs')) (va_A [(oM, .inr (12, [.ref mT, .int zt, .ref mS, .ref mX, .int zp, .int zf, .ref mL, .ref mB, .ref mD, .ref m1, .ref m2, .int zh, .ref mR, .int zr, .ref x1, .ref x2, .ref x3, .int zc, .ref mH, .int zy, .int za, .int zb, .int zs, .int zq, .int zw, .int ze, .ref mY, .int zn, .ref mE, .int zm, .int zl, .ref mW, .int zk, .ref mO, .int zd, .ref y1, .ref y2, .ref y3, .ref y4, .ref mZ])), (x1, .inl (cI, 300, .inl ec1)), (x2, .inl (cI, 300, .inl ec2)), (x3, .inl (cI, 300, .inl ec3))] sz)) 0 0 (va_A [(oM, .inr (12, [.ref mT, .int zt, .ref mS, .ref mX, .int zp, .int zf, .ref mL, .ref mB, .ref mD, .ref m1, .ref m2, .int zh, .ref mR, .int zr, .ref x1, .ref x2, .ref x3, .int zc, .ref mH, .int zy, .int za, .int zb, .int zs, .int zq, .int zw, .int ze, .ref mY, .int zn, .ref mE, .int zm, .int zl, .ref mW, .int zk, .ref mO, .int zd, .ref y1, .ref y2, .ref y3, .ref y4, .ref mZ])), (x1, .inl (cI, 300, .inl ec1)), (x2, .inl (cI, 300, .inl ec2)), (x3, .inl (cI, 300, .inl ec3))] sz) := by
  refine Met.ofW (cc := cX12_cost) (maxL := 5) (ret := (some .boolean)) (by decide) rfl ?_
  intro p e s m args below meth c s₁ B hml hv
  obtain ⟨rfl, hsz, hP, hK, hD0⟩ := hv
  have hx := B.exec
  have hb := B.bytes
  have hr := B.returns
  have hts := atoms_spec (ws := wsX12_cost) B.pre
  have hown : s.vm.findClass RX12 = some m.cls := findClass_of_methodNamed B.named
  have hlocks := B.notSynchronized
  have in_X12 : ∀ w ∈ wsX120, w ∈ wsX12_cost := fun _ h => List.mem_cons_of_mem _ (List.mem_append_right _ (h))
  subst hsz
  have hD := hD0.self (sz := s.heap.size)
  generalize hAe : va_A [(oM, .inr (12, [.ref mT, .int zt, .ref mS, .ref mX, .int zp, .int zf, .ref mL, .ref mB, .ref mD, .ref m1, .ref m2, .int zh, .ref mR, .int zr, .ref x1, .ref x2, .ref x3, .int zc, .ref mH, .int zy, .int za, .int zb, .int zs, .int zq, .int zw, .int ze, .ref mY, .int zn, .ref mE, .int zm, .int zl, .ref mW, .int zk, .ref mO, .int zd, .ref y1, .ref y2, .ref y3, .ref y4, .ref mZ])), (x1, .inl (cI, 300, .inl ec1)), (x2, .inl (cI, 300, .inl ec2)), (x3, .inl (cI, 300, .inl ec3))] s.heap.size = A at hD ⊢
  have hA : ∀ q : Nat, s.heap.size ≤ q → A q := fun q h => by rw [← hAe]; exact Or.inr h
  have hS : va_S A s.heap s.heap [] := va_S.rf
  have hP : va_P (dC, dI) vwCl [(oM, .inr (12, [.ref mT, .int zt, .ref mS, .ref mX, .int zp, .int zf, .ref mL, .ref mB, .ref mD, .ref m1, .ref m2, .int zh, .ref mR, .int zr, .ref x1, .ref x2, .ref x3, .int zc, .ref mH, .int zy, .int za, .int zb, .int zs, .int zq, .int zw, .int ze, .ref mY, .int zn, .ref mE, .int zm, .int zl, .ref mW, .int zk, .ref mO, .int zd, .ref y1, .ref y2, .ref y3, .ref y4, .ref mZ])), (x1, .inl (cI, 300, .inl ec1)), (x2, .inl (cI, 300, .inl ec2)), (x3, .inl (cI, 300, .inl ec3))] s.heap := hP
  have hl := lv_entry ([.ref oM, .int x, .int y, .int v]) (n := 5) (Nat.le_of_ble_eq_true rfl)
  rw [lg_entry_eq]
  generalize (lg_sl ([.ref oM, .int x, .int y, .int v]) ++ List.replicate (5 - (lg_sl ([.ref oM, .int x, .int y, .int v])).length) Slot.unset).toArray = ls at hl ⊢
  have hl : lv_has ls 5 [(0, .ref oM), (1, .int x), (2, .int y), (3, .int v)] := hl
  obtain ⟨QQ, hQQ⟩ : ∃ QQ : Array Value → State → Outcome → State → Prop, QQ = va_Qi (fun (r : Int32) (u : Int32) => r = u) (fun (r : Int32) t => ∃ (ze' : Int32) (zc' : Int32) (ec1' : Nat → Int32) (ec2' : Nat → Int32) (ec3' : Nat → Int32) (zs' : Int32), va_P (dC, dI) vwCl [(oM, .inr (12, [.ref mT, .int zt, .ref mS, .ref mX, .int zp, .int zf, .ref mL, .ref mB, .ref mD, .ref m1, .ref m2, .int zh, .ref mR, .int zr, .ref x1, .ref x2, .ref x3, .int zc', .ref mH, .int zy, .int za, .int zb, .int zs', .int zq, .int zw, .int ze', .ref mY, .int zn, .ref mE, .int zm, .int zl, .ref mW, .int zk, .ref mO, .int zd, .ref y1, .ref y2, .ref y3, .ref y4, .ref mZ])), (x1, .inl (cI, 300, .inl ec1')), (x2, .inl (cI, 300, .inl ec2')), (x3, .inl (cI, 300, .inl ec3'))] t.heap ∧ va_D A [(oM, .inr (12, [.ref mT, .int zt, .ref mS, .ref mX, .int zp, .int zf, .ref mL, .ref mB, .ref mD, .ref m1, .ref m2, .int zh, .ref mR, .int zr, .ref x1, .ref x2, .ref x3, .int zc', .ref mH, .int zy, .int za, .int zb, .int zs', .int zq, .int zw, .int ze', .ref mY, .int zn, .ref mE, .int zm, .int zl, .ref mW, .int zk, .ref mO, .int zd, .ref y1, .ref y2, .ref y3, .ref y4, .ref mZ])), (x1, .inl (cI, 300, .inl ec1')), (x2, .inl (cI, 300, .inl ec2')), (x3, .inl (cI, 300, .inl ec3'))] ∧ (0 ≤ zc'.toInt ∧ zc'.toInt ≤ 300) ∧ (0 ≤ zs'.toInt ∧ zs'.toInt ≤ 2000000) ∧ (0 ≤ r.toInt ∧ r.toInt ≤ 1) ∧ (zs'.toInt ≤ zs.toInt + 1 ∧ zs.toInt ≤ zs'.toInt) ∧ (F_ck zc zc' r x y v ec1 ec1' ec2 ec2' ec3 ec3') ∧ (F_zs (0) r zs zs')) A := ⟨_, rfl⟩
  rw [← hQQ]
  refine lv_aload_n hx hb dX12_cost_0 rfl (lv_at hl 0 rfl) ?_
  refine lv_iconst (v := 0) hx hb dX12_cost_1 (by decide) ?_
  refine va_put (D := (dC, dI)) (ci := 12) (v := .int 0) (ty := .int) (C := RX12) (T := TX12) (N := 40) hx hb hts in_X12 tyX12 tyX12_ok nmX12 hown hK hP hD hS 0 rfl rfl 25 (by decide) (hts (.fieldLink RX12 85 "TextMenderModel" "thrown" "I") (List.mem_of_getElem? (i := 1) rfl)) (fun _ h9 => h9) rfl (by decide +kernel) rfl rfl (Nat.le_of_ble_eq_true rfl) dX12_cost_2 (fun H locs hP hD hS => ?_)
  have hP : va_P (dC, dI) vwCl [(oM, .inr (12, [.ref mT, .int zt, .ref mS, .ref mX, .int zp, .int zf, .ref mL, .ref mB, .ref mD, .ref m1, .ref m2, .int zh, .ref mR, .int zr, .ref x1, .ref x2, .ref x3, .int zc, .ref mH, .int zy, .int za, .int zb, .int zs, .int zq, .int zw, .int 0, .ref mY, .int zn, .ref mE, .int zm, .int zl, .ref mW, .int zk, .ref mO, .int zd, .ref y1, .ref y2, .ref y3, .ref y4, .ref mZ])), (x1, .inl (cI, 300, .inl ec1)), (x2, .inl (cI, 300, .inl ec2)), (x3, .inl (cI, 300, .inl ec3))] H := hP
  have hD : va_D A [(oM, .inr (12, [.ref mT, .int zt, .ref mS, .ref mX, .int zp, .int zf, .ref mL, .ref mB, .ref mD, .ref m1, .ref m2, .int zh, .ref mR, .int zr, .ref x1, .ref x2, .ref x3, .int zc, .ref mH, .int zy, .int za, .int zb, .int zs, .int zq, .int zw, .int 0, .ref mY, .int zn, .ref mE, .int zm, .int zl, .ref mW, .int zk, .ref mO, .int zd, .ref y1, .ref y2, .ref y3, .ref y4, .ref mZ])), (x1, .inl (cI, 300, .inl ec1)), (x2, .inl (cI, 300, .inl ec2)), (x3, .inl (cI, 300, .inl ec3))] := hD
  refine lv_iload_n hx hb dX12_cost_5 rfl (lv_at hl 1 rfl) ?_
  have hPc := hP.sub (ws' := []) [] rfl
  have hDc := hD.sub (ws' := []) [] (by decide) rfl
  have hFc := va_free (wc := []) hD hS hA [] rfl
  refine va_calli (va_runS (As := [.int x]) (rest := []) ⟨hx, hb, hml, hown, hts⟩ (m_X12_isLetter l dC dI cI cS H.size x ) (va_cwS 1 hts gX12_cost_X12_isLetter rfl rfl rfl (by decide +kernel) ⟨Nat.le_of_ble_eq_true rfl, Nat.le_of_ble_eq_true rfl⟩) ⟨fun a U g mk q => by obtain ⟨q0, q1, qP, qK, qD⟩ := q; exact ⟨q0, q1, qP, va_K.moved (u := U) (U := U.calling g mk a) (Vm.Alike.refl U.vm) qK, qD⟩, fun U hU hW => ⟨rfl, by rw [hU], by rw [hU]; exact hPc, va_K.moved hW.alike hK, hDc.weaken (fun _ _ _ _ => trivial)⟩⟩ rfl rfl hl.1 rfl (lv_room (Nat.le_of_ble_eq_true rfl)) dX12_cost_6 ⟨Nat.le_of_ble_eq_true rfl, Nat.le_of_ble_eq_true rfl⟩) hS (fun q _ h => hFc q h) hFc (fun r_1 u t H1 locs ht hvm hw hB hz1 hk1 hS => ?_)
  subst hw
  obtain ⟨hP1, hD1, hf1_0, hf1_1⟩ := hB
  rw [ht] at hP1
  obtain ⟨hP, hD⟩ := va_join (wr := [(oM, .inr (12, [.ref mT, .int zt, .ref mS, .ref mX, .int zp, .int zf, .ref mL, .ref mB, .ref mD, .ref m1, .ref m2, .int zh, .ref mR, .int zr, .ref x1, .ref x2, .ref x3, .int zc, .ref mH, .int zy, .int za, .int zb, .int zs, .int zq, .int zw, .int 0, .ref mY, .int zn, .ref mE, .int zm, .int zl, .ref mW, .int zk, .ref mO, .int zd, .ref y1, .ref y2, .ref y3, .ref y4, .ref mZ])), (x1, .inl (cI, 300, .inl ec1)), (x2, .inl (cI, 300, .inl ec2)), (x3, .inl (cI, 300, .inl ec3))]) (w1 := []) hP hD [] [0, 1, 2, 3] rfl rfl (by decide) (by decide) hk1 hFc hP1 hD1
  generalize H1 = H at hP hS ⊢
  have hP : va_P (dC, dI) vwCl [(oM, .inr (12, [.ref mT, .int zt, .ref mS, .ref mX, .int zp, .int zf, .ref mL, .ref mB, .ref mD, .ref m1, .ref m2, .int zh, .ref mR, .int zr, .ref x1, .ref x2, .ref x3, .int zc, .ref mH, .int zy, .int za, .int zb, .int zs, .int zq, .int zw, .int 0, .ref mY, .int zn, .ref mE, .int zm, .int zl, .ref mW, .int zk, .ref mO, .int zd, .ref y1, .ref y2, .ref y3, .ref y4, .ref mZ])), (x1, .inl (cI, 300, .inl ec1)), (x2, .inl (cI, 300, .inl ec2)), (x3, .inl (cI, 300, .inl ec3))] H := hP
  have hD : va_D A [(oM, .inr (12, [.ref mT, .int zt, .ref mS, .ref mX, .int zp, .int zf, .ref mL, .ref mB, .ref mD, .ref m1, .ref m2, .int zh, .ref mR, .int zr, .ref x1, .ref x2, .ref x3, .int zc, .ref mH, .int zy, .int za, .int zb, .int zs, .int zq, .int zw, .int 0, .ref mY, .int zn, .ref mE, .int zm, .int zl, .ref mW, .int zk, .ref mO, .int zd, .ref y1, .ref y2, .ref y3, .ref y4, .ref mZ])), (x1, .inl (cI, 300, .inl ec1)), (x2, .inl (cI, 300, .inl ec2)), (x3, .inl (cI, 300, .inl ec3))] := hD
  refine lv_if_eq (tgt := 30) hx hb dX12_cost_9 (by decide) (fun c_2 => ?_) (fun c_2 => ?_)
  · have tc_2 : r_1.toInt = 0 := v_eq c_2
    refine lv_iconst (v := 0) hx hb dX12_cost_30 (by decide) ?_
    have hP9 := hP.sub (ws' := [(oM, .inr (12, [.ref mT, .int zt, .ref mS, .ref mX, .int zp, .int zf, .ref mL, .ref mB, .ref mD, .ref m1, .ref m2, .int zh, .ref mR, .int zr, .ref x1, .ref x2, .ref x3, .int zc, .ref mH, .int zy, .int za, .int zb, .int zs, .int zq, .int zw, .int 0, .ref mY, .int zn, .ref mE, .int zm, .int zl, .ref mW, .int zk, .ref mO, .int zd, .ref y1, .ref y2, .ref y3, .ref y4, .ref mZ])), (x1, .inl (cI, 300, .inl ec1)), (x2, .inl (cI, 300, .inl ec2)), (x3, .inl (cI, 300, .inl ec3))]) [0, 1, 2, 3] rfl
    have hD9 := hD.sub (ws' := [(oM, .inr (12, [.ref mT, .int zt, .ref mS, .ref mX, .int zp, .int zf, .ref mL, .ref mB, .ref mD, .ref m1, .ref m2, .int zh, .ref mR, .int zr, .ref x1, .ref x2, .ref x3, .int zc, .ref mH, .int zy, .int za, .int zb, .int zs, .int zq, .int zw, .int 0, .ref mY, .int zn, .ref mE, .int zm, .int zl, .ref mW, .int zk, .ref mO, .int zd, .ref y1, .ref y2, .ref y3, .ref y4, .ref mZ])), (x1, .inl (cI, 300, .inl ec1)), (x2, .inl (cI, 300, .inl ec2)), (x3, .inl (cI, 300, .inl ec3))]) [0, 1, 2, 3] (by decide) rfl
    rw [hQQ]
    exact W.zret (v := 0) (ty := .boolean) hx hb hr (rfl) (fun t ht hW => ⟨⟨0, 0, rfl, rfl, ⟨0, zc, ec1, ec2, ec3, zs, by rw [ht]; exact hP9, hD9, by omega, by omega, by decide, by show zs.toInt ≤ zs.toInt + 1 ∧ zs.toInt ≤ zs.toInt; omega, by first | exact Or.inr ⟨rfl, by unfold isLq; omega, rfl, rfl, rfl, rfl⟩ | exact Or.inl ⟨by unfold isLq; omega, by unfold isLq; omega, Or.inr ⟨rfl, Or.inl (by unfold okv; omega), rfl, rfl, rfl, rfl⟩⟩, by first | exact Or.inl ⟨by first | rfl | omega, rfl⟩ | exact Or.inr ⟨by first | decide | omega, by omega⟩⟩⟩, hS.F ht⟩) hS.2.2 dX12_cost_31
  · have tc_2 : ¬ r_1.toInt = 0 := v_ne c_2
    refine lv_iload_n hx hb dX12_cost_12 rfl (lv_at hl 2 rfl) ?_
    have hPc := hP.sub (ws' := []) [] rfl
    have hDc := hD.sub (ws' := []) [] (by decide) rfl
    have hFc := va_free (wc := []) hD hS hA [] rfl
    refine va_calli (va_runS (As := [.int y]) (rest := []) ⟨hx, hb, hml, hown, hts⟩ (m_X12_isLetter l dC dI cI cS H.size y ) (va_cwS 1 hts gX12_cost_X12_isLetter rfl rfl rfl (by decide +kernel) ⟨Nat.le_of_ble_eq_true rfl, Nat.le_of_ble_eq_true rfl⟩) ⟨fun a U g mk q => by obtain ⟨q0, q1, qP, qK, qD⟩ := q; exact ⟨q0, q1, qP, va_K.moved (u := U) (U := U.calling g mk a) (Vm.Alike.refl U.vm) qK, qD⟩, fun U hU hW => ⟨rfl, by rw [hU], by rw [hU]; exact hPc, va_K.moved hW.alike hK, hDc.weaken (fun _ _ _ _ => trivial)⟩⟩ rfl rfl hl.1 rfl (lv_room (Nat.le_of_ble_eq_true rfl)) dX12_cost_13 ⟨Nat.le_of_ble_eq_true rfl, Nat.le_of_ble_eq_true rfl⟩) hS (fun q _ h => hFc q h) hFc (fun r_3 u t H1 locs ht hvm hw hB hz1 hk1 hS => ?_)
    subst hw
    obtain ⟨hP1, hD1, hf3_0, hf3_1⟩ := hB
    rw [ht] at hP1
    obtain ⟨hP, hD⟩ := va_join (wr := [(oM, .inr (12, [.ref mT, .int zt, .ref mS, .ref mX, .int zp, .int zf, .ref mL, .ref mB, .ref mD, .ref m1, .ref m2, .int zh, .ref mR, .int zr, .ref x1, .ref x2, .ref x3, .int zc, .ref mH, .int zy, .int za, .int zb, .int zs, .int zq, .int zw, .int 0, .ref mY, .int zn, .ref mE, .int zm, .int zl, .ref mW, .int zk, .ref mO, .int zd, .ref y1, .ref y2, .ref y3, .ref y4, .ref mZ])), (x1, .inl (cI, 300, .inl ec1)), (x2, .inl (cI, 300, .inl ec2)), (x3, .inl (cI, 300, .inl ec3))]) (w1 := []) hP hD [] [0, 1, 2, 3] rfl rfl (by decide) (by decide) hk1 hFc hP1 hD1
    generalize H1 = H at hP hS ⊢
    have hP : va_P (dC, dI) vwCl [(oM, .inr (12, [.ref mT, .int zt, .ref mS, .ref mX, .int zp, .int zf, .ref mL, .ref mB, .ref mD, .ref m1, .ref m2, .int zh, .ref mR, .int zr, .ref x1, .ref x2, .ref x3, .int zc, .ref mH, .int zy, .int za, .int zb, .int zs, .int zq, .int zw, .int 0, .ref mY, .int zn, .ref mE, .int zm, .int zl, .ref mW, .int zk, .ref mO, .int zd, .ref y1, .ref y2, .ref y3, .ref y4, .ref mZ])), (x1, .inl (cI, 300, .inl ec1)), (x2, .inl (cI, 300, .inl ec2)), (x3, .inl (cI, 300, .inl ec3))] H := hP
    have hD : va_D A [(oM, .inr (12, [.ref mT, .int zt, .ref mS, .ref mX, .int zp, .int zf, .ref mL, .ref mB, .ref mD, .ref m1, .ref m2, .int zh, .ref mR, .int zr, .ref x1, .ref x2, .ref x3, .int zc, .ref mH, .int zy, .int za, .int zb, .int zs, .int zq, .int zw, .int 0, .ref mY, .int zn, .ref mE, .int zm, .int zl, .ref mW, .int zk, .ref mO, .int zd, .ref y1, .ref y2, .ref y3, .ref y4, .ref mZ])), (x1, .inl (cI, 300, .inl ec1)), (x2, .inl (cI, 300, .inl ec2)), (x3, .inl (cI, 300, .inl ec3))] := hD
    refine lv_if_eq (tgt := 30) hx hb dX12_cost_16 (by decide) (fun c_4 => ?_) (fun c_4 => ?_)
    · have tc_4 : r_3.toInt = 0 := v_eq c_4
      refine lv_iconst (v := 0) hx hb dX12_cost_30 (by decide) ?_
      have hP9 := hP.sub (ws' := [(oM, .inr (12, [.ref mT, .int zt, .ref mS, .ref mX, .int zp, .int zf, .ref mL, .ref mB, .ref mD, .ref m1, .ref m2, .int zh, .ref mR, .int zr, .ref x1, .ref x2, .ref x3, .int zc, .ref mH, .int zy, .int za, .int zb, .int zs, .int zq, .int zw, .int 0, .ref mY, .int zn, .ref mE, .int zm, .int zl, .ref mW, .int zk, .ref mO, .int zd, .ref y1, .ref y2, .ref y3, .ref y4, .ref mZ])), (x1, .inl (cI, 300, .inl ec1)), (x2, .inl (cI, 300, .inl ec2)), (x3, .inl (cI, 300, .inl ec3))]) [0, 1, 2, 3] rfl
      have hD9 := hD.sub (ws' := [(oM, .inr (12, [.ref mT, .int zt, .ref mS, .ref mX, .int zp, .int zf, .ref mL, .ref mB, .ref mD, .ref m1, .ref m2, .int zh, .ref mR, .int zr, .ref x1, .ref x2, .ref x3, .int zc, .ref mH, .int zy, .int za, .int zb, .int zs, .int zq, .int zw, .int 0, .ref mY, .int zn, .ref mE, .int zm, .int zl, .ref mW, .int zk, .ref mO, .int zd, .ref y1, .ref y2, .ref y3, .ref y4, .ref mZ])), (x1, .inl (cI, 300, .inl ec1)), (x2, .inl (cI, 300, .inl ec2)), (x3, .inl (cI, 300, .inl ec3))]) [0, 1, 2, 3] (by decide) rfl
      rw [hQQ]
      exact W.zret (v := 0) (ty := .boolean) hx hb hr (rfl) (fun t ht hW => ⟨⟨0, 0, rfl, rfl, ⟨0, zc, ec1, ec2, ec3, zs, by rw [ht]; exact hP9, hD9, by omega, by omega, by decide, by show zs.toInt ≤ zs.toInt + 1 ∧ zs.toInt ≤ zs.toInt; omega, by first | exact Or.inr ⟨rfl, by unfold isLq; omega, rfl, rfl, rfl, rfl⟩ | exact Or.inl ⟨by unfold isLq; omega, by unfold isLq; omega, Or.inr ⟨rfl, Or.inl (by unfold okv; omega), rfl, rfl, rfl, rfl⟩⟩, by first | exact Or.inl ⟨by first | rfl | omega, rfl⟩ | exact Or.inr ⟨by first | decide | omega, by omega⟩⟩⟩, hS.F ht⟩) hS.2.2 dX12_cost_31
    · have tc_4 : ¬ r_3.toInt = 0 := v_ne c_4
      refine lv_iload_n hx hb dX12_cost_19 rfl (lv_at hl 3 rfl) ?_
      refine lv_if_lt (tgt := 30) hx hb dX12_cost_20 (by decide) (fun c_5 => ?_) (fun c_5 => ?_)
      · have tc_5 : v.toInt < 0 := v_lt c_5
        refine lv_iconst (v := 0) hx hb dX12_cost_30 (by decide) ?_
        have hP9 := hP.sub (ws' := [(oM, .inr (12, [.ref mT, .int zt, .ref mS, .ref mX, .int zp, .int zf, .ref mL, .ref mB, .ref mD, .ref m1, .ref m2, .int zh, .ref mR, .int zr, .ref x1, .ref x2, .ref x3, .int zc, .ref mH, .int zy, .int za, .int zb, .int zs, .int zq, .int zw, .int 0, .ref mY, .int zn, .ref mE, .int zm, .int zl, .ref mW, .int zk, .ref mO, .int zd, .ref y1, .ref y2, .ref y3, .ref y4, .ref mZ])), (x1, .inl (cI, 300, .inl ec1)), (x2, .inl (cI, 300, .inl ec2)), (x3, .inl (cI, 300, .inl ec3))]) [0, 1, 2, 3] rfl
        have hD9 := hD.sub (ws' := [(oM, .inr (12, [.ref mT, .int zt, .ref mS, .ref mX, .int zp, .int zf, .ref mL, .ref mB, .ref mD, .ref m1, .ref m2, .int zh, .ref mR, .int zr, .ref x1, .ref x2, .ref x3, .int zc, .ref mH, .int zy, .int za, .int zb, .int zs, .int zq, .int zw, .int 0, .ref mY, .int zn, .ref mE, .int zm, .int zl, .ref mW, .int zk, .ref mO, .int zd, .ref y1, .ref y2, .ref y3, .ref y4, .ref mZ])), (x1, .inl (cI, 300, .inl ec1)), (x2, .inl (cI, 300, .inl ec2)), (x3, .inl (cI, 300, .inl ec3))]) [0, 1, 2, 3] (by decide) rfl
        rw [hQQ]
        exact W.zret (v := 0) (ty := .boolean) hx hb hr (rfl) (fun t ht hW => ⟨⟨0, 0, rfl, rfl, ⟨0, zc, ec1, ec2, ec3, zs, by rw [ht]; exact hP9, hD9, by omega, by omega, by decide, by show zs.toInt ≤ zs.toInt + 1 ∧ zs.toInt ≤ zs.toInt; omega, by first | exact Or.inr ⟨rfl, by unfold isLq; omega, rfl, rfl, rfl, rfl⟩ | exact Or.inl ⟨by unfold isLq; omega, by unfold isLq; omega, Or.inr ⟨rfl, Or.inl (by unfold okv; omega), rfl, rfl, rfl, rfl⟩⟩, by first | exact Or.inl ⟨by first | rfl | omega, rfl⟩ | exact Or.inr ⟨by first | decide | omega, by omega⟩⟩⟩, hS.F ht⟩) hS.2.2 dX12_cost_31
      · have tc_5 : 0 ≤ v.toInt := v_nlt c_5
        refine lv_iload_n hx hb dX12_cost_23 rfl (lv_at hl 3 rfl) ?_
        refine lv_sipush (v := 200) hx hb dX12_cost_24 (by decide) ?_
        refine lv_icmp_le (tgt := 32) hx hb dX12_cost_27 (by decide) (fun c_6 => ?_) (fun c_6 => ?_)
        · have tc_6 : v.toInt ≤ 200 := v_le c_6
          refine lv_iconst (v := 0) hx hb dX12_cost_32 (by decide) ?_
          refine lv_istore (lv' := [(4, .int 0), (0, .ref oM), (1, .int x), (2, .int y), (3, .int v)]) hx hb dX12_cost_33 hl (by decide) rfl (fun ls hl => ?_)
          have LOOP_35 : ∀ (k_35 : Nat) (k : Int32) (H : Heap) (locs : List Loc) (ls : Array Slot), (300 - k.toInt : Int).toNat < k_35 → (0 ≤ k.toInt ∧ k.toInt ≤ 300) → (k.toInt ≤ zc.toInt) → (noP k.toInt x y ec1 ec2) → va_P (dC, dI) vwCl [(oM, .inr (12, [.ref mT, .int zt, .ref mS, .ref mX, .int zp, .int zf, .ref mL, .ref mB, .ref mD, .ref m1, .ref m2, .int zh, .ref mR, .int zr, .ref x1, .ref x2, .ref x3, .int zc, .ref mH, .int zy, .int za, .int zb, .int zs, .int zq, .int zw, .int 0, .ref mY, .int zn, .ref mE, .int zm, .int zl, .ref mW, .int zk, .ref mO, .int zd, .ref y1, .ref y2, .ref y3, .ref y4, .ref mZ])), (x1, .inl (cI, 300, .inl ec1)), (x2, .inl (cI, 300, .inl ec2)), (x3, .inl (cI, 300, .inl ec3))] H → va_D A [(oM, .inr (12, [.ref mT, .int zt, .ref mS, .ref mX, .int zp, .int zf, .ref mL, .ref mB, .ref mD, .ref m1, .ref m2, .int zh, .ref mR, .int zr, .ref x1, .ref x2, .ref x3, .int zc, .ref mH, .int zy, .int za, .int zb, .int zs, .int zq, .int zw, .int 0, .ref mY, .int zn, .ref mE, .int zm, .int zl, .ref mW, .int zk, .ref mO, .int zd, .ref y1, .ref y2, .ref y3, .ref y4, .ref mZ])), (x1, .inl (cI, 300, .inl ec1)), (x2, .inl (cI, 300, .inl ec2)), (x3, .inl (cI, 300, .inl ec3))] → va_S A s.heap H locs → lv_has ls 5 [(4, .int k), (0, .ref oM), (1, .int x), (2, .int y), (3, .int v)] → W p l e (headSpec wsX12_cost ({ frames := 1, cells := 0, slots := 0, locals := 20 } : Room)).room s m ([.ref oM, .int x, .int y, .int v] : List Value).toArray below meth c H locs 0 0 (MQ below QQ ([.ref oM, .int x, .int y, .int v] : List Value).toArray s 0 0 A) (F0 m 35 ls []) := by
            intro k_35
            induction k_35 with
            | zero =>
              intro k H locs ls hm_35 g_k hkc hno hP hD hS hl
              exact absurd hm_35 (Nat.not_lt_zero _)
            | succ k_35 ih_35 =>
              intro k H locs ls hm_35 g_k hkc hno hP hD hS hl
              refine lv_iload hx hb dX12_cost_35 (lv_at hl 0 rfl) ?_
              refine lv_aload_n hx hb dX12_cost_37 rfl (lv_at hl 1 rfl) ?_
              refine va_get (D := (dC, dI)) (ci := 12) (v := .int zc) (C := RX12) (T := TX12) (N := 40) hx hb hts in_X12 hown hK hP 0 rfl rfl 17 (by decide) (hts (.fieldLink RX12 168 "TextMenderModel" "costs" "I") (List.mem_of_getElem? (i := 2) rfl)) (fun _ h9 => h9) rfl dX12_cost_38 ?_
              refine lv_icmp_ge (tgt := 72) hx hb dX12_cost_41 (by decide) (fun c_7 => ?_) (fun c_7 => ?_)
              · have tc_7 : zc.toInt ≤ k.toInt := v_le c_7
                refine lv_iload hx hb dX12_cost_72 (lv_at hl 0 rfl) ?_
                refine lv_sipush (v := 300) hx hb dX12_cost_74 (by decide) ?_
                refine lv_icmp_ne (tgt := 82) hx hb dX12_cost_77 (by decide) (fun c_8 => ?_) (fun c_8 => ?_)
                · have tc_8 : ¬ k.toInt = 300 := v_ne c_8
                  refine lv_aload_n hx hb dX12_cost_82 rfl (lv_at hl 1 rfl) ?_
                  refine va_get (D := (dC, dI)) (ci := 12) (v := .ref x1) (C := RX12) (T := TX12) (N := 40) hx hb hts in_X12 hown hK hP 0 rfl rfl 14 (by decide) (hts (.fieldLink RX12 39 "TextMenderModel" "costX" "[I") (List.mem_of_getElem? (i := 3) rfl)) (fun _ h9 => h9) rfl dX12_cost_83 ?_
                  refine lv_iload hx hb dX12_cost_86 (lv_at hl 0 rfl) ?_
                  refine lv_iload_n hx hb dX12_cost_88 rfl (lv_at hl 2 rfl) ?_
                  refine va_iast hx hb hK hP hD hS 1 0 rfl rfl (v_in (by omega)) dX12_cost_89 (fun H locs hP hD hS => ?_)
                  have hP : va_P (dC, dI) vwCl [(oM, .inr (12, [.ref mT, .int zt, .ref mS, .ref mX, .int zp, .int zf, .ref mL, .ref mB, .ref mD, .ref m1, .ref m2, .int zh, .ref mR, .int zr, .ref x1, .ref x2, .ref x3, .int zc, .ref mH, .int zy, .int za, .int zb, .int zs, .int zq, .int zw, .int 0, .ref mY, .int zn, .ref mE, .int zm, .int zl, .ref mW, .int zk, .ref mO, .int zd, .ref y1, .ref y2, .ref y3, .ref y4, .ref mZ])), (x1, .inl (cI, 300, .inl (upd ec1 (k : Int32).toNatClampNeg x))), (x2, .inl (cI, 300, .inl ec2)), (x3, .inl (cI, 300, .inl ec3))] H := hP
                  have hD : va_D A [(oM, .inr (12, [.ref mT, .int zt, .ref mS, .ref mX, .int zp, .int zf, .ref mL, .ref mB, .ref mD, .ref m1, .ref m2, .int zh, .ref mR, .int zr, .ref x1, .ref x2, .ref x3, .int zc, .ref mH, .int zy, .int za, .int zb, .int zs, .int zq, .int zw, .int 0, .ref mY, .int zn, .ref mE, .int zm, .int zl, .ref mW, .int zk, .ref mO, .int zd, .ref y1, .ref y2, .ref y3, .ref y4, .ref mZ])), (x1, .inl (cI, 300, .inl (upd ec1 (k : Int32).toNatClampNeg x))), (x2, .inl (cI, 300, .inl ec2)), (x3, .inl (cI, 300, .inl ec3))] := hD
                  obtain ⟨f_9, ef_9⟩ : ∃ g : Nat → Int32, g = upd ec1 (k : Int32).toNatClampNeg x := ⟨_, rfl⟩
                  rw [← ef_9] at hP hD
                  refine lv_aload_n hx hb dX12_cost_90 rfl (lv_at hl 1 rfl) ?_
                  refine va_get (D := (dC, dI)) (ci := 12) (v := .ref x2) (C := RX12) (T := TX12) (N := 40) hx hb hts in_X12 hown hK hP 0 rfl rfl 15 (by decide) (hts (.fieldLink RX12 42 "TextMenderModel" "costY" "[I") (List.mem_of_getElem? (i := 4) rfl)) (fun _ h9 => h9) rfl dX12_cost_91 ?_
                  refine lv_iload hx hb dX12_cost_94 (lv_at hl 0 rfl) ?_
                  refine lv_iload_n hx hb dX12_cost_96 rfl (lv_at hl 3 rfl) ?_
                  refine va_iast hx hb hK hP hD hS 2 0 rfl rfl (v_in (by omega)) dX12_cost_97 (fun H locs hP hD hS => ?_)
                  have hP : va_P (dC, dI) vwCl [(oM, .inr (12, [.ref mT, .int zt, .ref mS, .ref mX, .int zp, .int zf, .ref mL, .ref mB, .ref mD, .ref m1, .ref m2, .int zh, .ref mR, .int zr, .ref x1, .ref x2, .ref x3, .int zc, .ref mH, .int zy, .int za, .int zb, .int zs, .int zq, .int zw, .int 0, .ref mY, .int zn, .ref mE, .int zm, .int zl, .ref mW, .int zk, .ref mO, .int zd, .ref y1, .ref y2, .ref y3, .ref y4, .ref mZ])), (x1, .inl (cI, 300, .inl f_9)), (x2, .inl (cI, 300, .inl (upd ec2 (k : Int32).toNatClampNeg y))), (x3, .inl (cI, 300, .inl ec3))] H := hP
                  have hD : va_D A [(oM, .inr (12, [.ref mT, .int zt, .ref mS, .ref mX, .int zp, .int zf, .ref mL, .ref mB, .ref mD, .ref m1, .ref m2, .int zh, .ref mR, .int zr, .ref x1, .ref x2, .ref x3, .int zc, .ref mH, .int zy, .int za, .int zb, .int zs, .int zq, .int zw, .int 0, .ref mY, .int zn, .ref mE, .int zm, .int zl, .ref mW, .int zk, .ref mO, .int zd, .ref y1, .ref y2, .ref y3, .ref y4, .ref mZ])), (x1, .inl (cI, 300, .inl f_9)), (x2, .inl (cI, 300, .inl (upd ec2 (k : Int32).toNatClampNeg y))), (x3, .inl (cI, 300, .inl ec3))] := hD
                  obtain ⟨f_10, ef_10⟩ : ∃ g : Nat → Int32, g = upd ec2 (k : Int32).toNatClampNeg y := ⟨_, rfl⟩
                  rw [← ef_10] at hP hD
                  refine lv_aload_n hx hb dX12_cost_98 rfl (lv_at hl 1 rfl) ?_
                  refine va_get (D := (dC, dI)) (ci := 12) (v := .ref x3) (C := RX12) (T := TX12) (N := 40) hx hb hts in_X12 hown hK hP 0 rfl rfl 16 (by decide) (hts (.fieldLink RX12 45 "TextMenderModel" "costV" "[I") (List.mem_of_getElem? (i := 5) rfl)) (fun _ h9 => h9) rfl dX12_cost_99 ?_
                  refine lv_iload hx hb dX12_cost_102 (lv_at hl 0 rfl) ?_
                  refine lv_iload_n hx hb dX12_cost_104 rfl (lv_at hl 4 rfl) ?_
                  refine va_iast hx hb hK hP hD hS 3 0 rfl rfl (v_in (by omega)) dX12_cost_105 (fun H locs hP hD hS => ?_)
                  have hP : va_P (dC, dI) vwCl [(oM, .inr (12, [.ref mT, .int zt, .ref mS, .ref mX, .int zp, .int zf, .ref mL, .ref mB, .ref mD, .ref m1, .ref m2, .int zh, .ref mR, .int zr, .ref x1, .ref x2, .ref x3, .int zc, .ref mH, .int zy, .int za, .int zb, .int zs, .int zq, .int zw, .int 0, .ref mY, .int zn, .ref mE, .int zm, .int zl, .ref mW, .int zk, .ref mO, .int zd, .ref y1, .ref y2, .ref y3, .ref y4, .ref mZ])), (x1, .inl (cI, 300, .inl f_9)), (x2, .inl (cI, 300, .inl f_10)), (x3, .inl (cI, 300, .inl (upd ec3 (k : Int32).toNatClampNeg v)))] H := hP
                  have hD : va_D A [(oM, .inr (12, [.ref mT, .int zt, .ref mS, .ref mX, .int zp, .int zf, .ref mL, .ref mB, .ref mD, .ref m1, .ref m2, .int zh, .ref mR, .int zr, .ref x1, .ref x2, .ref x3, .int zc, .ref mH, .int zy, .int za, .int zb, .int zs, .int zq, .int zw, .int 0, .ref mY, .int zn, .ref mE, .int zm, .int zl, .ref mW, .int zk, .ref mO, .int zd, .ref y1, .ref y2, .ref y3, .ref y4, .ref mZ])), (x1, .inl (cI, 300, .inl f_9)), (x2, .inl (cI, 300, .inl f_10)), (x3, .inl (cI, 300, .inl (upd ec3 (k : Int32).toNatClampNeg v)))] := hD
                  obtain ⟨f_11, ef_11⟩ : ∃ g : Nat → Int32, g = upd ec3 (k : Int32).toNatClampNeg v := ⟨_, rfl⟩
                  rw [← ef_11] at hP hD
                  refine lv_iload hx hb dX12_cost_106 (lv_at hl 0 rfl) ?_
                  refine lv_aload_n hx hb dX12_cost_108 rfl (lv_at hl 1 rfl) ?_
                  refine va_get (D := (dC, dI)) (ci := 12) (v := .int zc) (C := RX12) (T := TX12) (N := 40) hx hb hts in_X12 hown hK hP 0 rfl rfl 17 (by decide) (hts (.fieldLink RX12 168 "TextMenderModel" "costs" "I") (List.mem_of_getElem? (i := 2) rfl)) (fun _ h9 => h9) rfl dX12_cost_109 ?_
                  refine lv_icmp_ne (tgt := 125) hx hb dX12_cost_112 (by decide) (fun c_12 => ?_) (fun c_12 => ?_)
                  · have tc_12 : ¬ k.toInt = zc.toInt := v_ne c_12
                    refine lv_aload_n hx hb dX12_cost_125 rfl (lv_at hl 1 rfl) ?_
                    refine lv_dup hx hb dX12_cost_126 rfl ?_
                    refine va_get (D := (dC, dI)) (ci := 12) (v := .int zs) (C := RX12) (T := TX12) (N := 40) hx hb hts in_X12 hown hK hP 0 rfl rfl 22 (by decide) (hts (.fieldLink RX12 148 "TextMenderModel" "state" "I") (List.mem_of_getElem? (i := 6) rfl)) (fun _ h9 => h9) rfl dX12_cost_127 ?_
                    refine lv_iconst (v := 1) hx hb dX12_cost_130 (by decide) ?_
                    refine lv_iadd hx hb dX12_cost_131 ?_
                    refine lv_topi (fun x_13 ex_13 => ?_)
                    have tx_13 : x_13.toInt = zs.toInt + 1 := v_add ex_13 (by show -2147483648 ≤ zs.toInt + 1; omega) (by show zs.toInt + 1 < 2147483648; omega)
                    refine va_put (D := (dC, dI)) (ci := 12) (v := .int x_13) (ty := .int) (C := RX12) (T := TX12) (N := 40) hx hb hts in_X12 tyX12 tyX12_ok nmX12 hown hK hP hD hS 0 rfl rfl 22 (by decide) (hts (.fieldLink RX12 148 "TextMenderModel" "state" "I") (List.mem_of_getElem? (i := 6) rfl)) (fun _ h9 => h9) rfl (by decide +kernel) rfl rfl (Nat.le_of_ble_eq_true rfl) dX12_cost_132 (fun H locs hP hD hS => ?_)
                    have hP : va_P (dC, dI) vwCl [(oM, .inr (12, [.ref mT, .int zt, .ref mS, .ref mX, .int zp, .int zf, .ref mL, .ref mB, .ref mD, .ref m1, .ref m2, .int zh, .ref mR, .int zr, .ref x1, .ref x2, .ref x3, .int zc, .ref mH, .int zy, .int za, .int zb, .int x_13, .int zq, .int zw, .int 0, .ref mY, .int zn, .ref mE, .int zm, .int zl, .ref mW, .int zk, .ref mO, .int zd, .ref y1, .ref y2, .ref y3, .ref y4, .ref mZ])), (x1, .inl (cI, 300, .inl f_9)), (x2, .inl (cI, 300, .inl f_10)), (x3, .inl (cI, 300, .inl f_11))] H := hP
                    have hD : va_D A [(oM, .inr (12, [.ref mT, .int zt, .ref mS, .ref mX, .int zp, .int zf, .ref mL, .ref mB, .ref mD, .ref m1, .ref m2, .int zh, .ref mR, .int zr, .ref x1, .ref x2, .ref x3, .int zc, .ref mH, .int zy, .int za, .int zb, .int x_13, .int zq, .int zw, .int 0, .ref mY, .int zn, .ref mE, .int zm, .int zl, .ref mW, .int zk, .ref mO, .int zd, .ref y1, .ref y2, .ref y3, .ref y4, .ref mZ])), (x1, .inl (cI, 300, .inl f_9)), (x2, .inl (cI, 300, .inl f_10)), (x3, .inl (cI, 300, .inl f_11))] := hD
                    refine lv_iconst (v := 1) hx hb dX12_cost_135 (by decide) ?_
                    have hP9 := hP.sub (ws' := [(oM, .inr (12, [.ref mT, .int zt, .ref mS, .ref mX, .int zp, .int zf, .ref mL, .ref mB, .ref mD, .ref m1, .ref m2, .int zh, .ref mR, .int zr, .ref x1, .ref x2, .ref x3, .int zc, .ref mH, .int zy, .int za, .int zb, .int x_13, .int zq, .int zw, .int 0, .ref mY, .int zn, .ref mE, .int zm, .int zl, .ref mW, .int zk, .ref mO, .int zd, .ref y1, .ref y2, .ref y3, .ref y4, .ref mZ])), (x1, .inl (cI, 300, .inl f_9)), (x2, .inl (cI, 300, .inl f_10)), (x3, .inl (cI, 300, .inl f_11))]) [0, 1, 2, 3] rfl
                    have hD9 := hD.sub (ws' := [(oM, .inr (12, [.ref mT, .int zt, .ref mS, .ref mX, .int zp, .int zf, .ref mL, .ref mB, .ref mD, .ref m1, .ref m2, .int zh, .ref mR, .int zr, .ref x1, .ref x2, .ref x3, .int zc, .ref mH, .int zy, .int za, .int zb, .int x_13, .int zq, .int zw, .int 0, .ref mY, .int zn, .ref mE, .int zm, .int zl, .ref mW, .int zk, .ref mO, .int zd, .ref y1, .ref y2, .ref y3, .ref y4, .ref mZ])), (x1, .inl (cI, 300, .inl f_9)), (x2, .inl (cI, 300, .inl f_10)), (x3, .inl (cI, 300, .inl f_11))]) [0, 1, 2, 3] (by decide) rfl
                    rw [hQQ]
                    exact W.zret (v := 1) (ty := .boolean) hx hb hr (rfl) (fun t ht hW => ⟨⟨1, 1, rfl, rfl, ⟨0, zc, f_9, f_10, f_11, x_13, by rw [ht]; exact hP9, hD9, by omega, by omega, by decide, by show x_13.toInt ≤ zs.toInt + 1 ∧ zs.toInt ≤ x_13.toInt; omega, Or.inl ⟨by unfold isLq; omega, by unfold isLq; omega, Or.inl ⟨rfl, by unfold okv; omega, Or.inr ⟨fun j hj => hno j (by omega), by omega, by omega, (v_inj (by omega) : k = zc) ▸ ef_9, (v_inj (by omega) : k = zc) ▸ ef_10, (v_inj (by omega) : k = zc) ▸ ef_11⟩⟩⟩, by first | exact Or.inl ⟨by first | rfl | omega, rfl⟩ | exact Or.inr ⟨by first | decide | omega, by omega⟩⟩⟩, hS.F ht⟩) hS.2.2 dX12_cost_136
                  · have tc_12 : k.toInt = zc.toInt := v_eq c_12
                    refine lv_aload_n hx hb dX12_cost_115 rfl (lv_at hl 1 rfl) ?_
                    refine lv_dup hx hb dX12_cost_116 rfl ?_
                    refine va_get (D := (dC, dI)) (ci := 12) (v := .int zc) (C := RX12) (T := TX12) (N := 40) hx hb hts in_X12 hown hK hP 0 rfl rfl 17 (by decide) (hts (.fieldLink RX12 168 "TextMenderModel" "costs" "I") (List.mem_of_getElem? (i := 2) rfl)) (fun _ h9 => h9) rfl dX12_cost_117 ?_
                    refine lv_iconst (v := 1) hx hb dX12_cost_120 (by decide) ?_
                    refine lv_iadd hx hb dX12_cost_121 ?_
                    refine lv_topi (fun x_14 ex_14 => ?_)
                    have tx_14 : x_14.toInt = zc.toInt + 1 := v_add ex_14 (by show -2147483648 ≤ zc.toInt + 1; omega) (by show zc.toInt + 1 < 2147483648; omega)
                    refine va_put (D := (dC, dI)) (ci := 12) (v := .int x_14) (ty := .int) (C := RX12) (T := TX12) (N := 40) hx hb hts in_X12 tyX12 tyX12_ok nmX12 hown hK hP hD hS 0 rfl rfl 17 (by decide) (hts (.fieldLink RX12 168 "TextMenderModel" "costs" "I") (List.mem_of_getElem? (i := 2) rfl)) (fun _ h9 => h9) rfl (by decide +kernel) rfl rfl (Nat.le_of_ble_eq_true rfl) dX12_cost_122 (fun H locs hP hD hS => ?_)
                    have hP : va_P (dC, dI) vwCl [(oM, .inr (12, [.ref mT, .int zt, .ref mS, .ref mX, .int zp, .int zf, .ref mL, .ref mB, .ref mD, .ref m1, .ref m2, .int zh, .ref mR, .int zr, .ref x1, .ref x2, .ref x3, .int x_14, .ref mH, .int zy, .int za, .int zb, .int zs, .int zq, .int zw, .int 0, .ref mY, .int zn, .ref mE, .int zm, .int zl, .ref mW, .int zk, .ref mO, .int zd, .ref y1, .ref y2, .ref y3, .ref y4, .ref mZ])), (x1, .inl (cI, 300, .inl f_9)), (x2, .inl (cI, 300, .inl f_10)), (x3, .inl (cI, 300, .inl f_11))] H := hP
                    have hD : va_D A [(oM, .inr (12, [.ref mT, .int zt, .ref mS, .ref mX, .int zp, .int zf, .ref mL, .ref mB, .ref mD, .ref m1, .ref m2, .int zh, .ref mR, .int zr, .ref x1, .ref x2, .ref x3, .int x_14, .ref mH, .int zy, .int za, .int zb, .int zs, .int zq, .int zw, .int 0, .ref mY, .int zn, .ref mE, .int zm, .int zl, .ref mW, .int zk, .ref mO, .int zd, .ref y1, .ref y2, .ref y3, .ref y4, .ref mZ])), (x1, .inl (cI, 300, .inl f_9)), (x2, .inl (cI, 300, .inl f_10)), (x3, .inl (cI, 300, .inl f_11))] := hD
                    refine lv_aload_n hx hb dX12_cost_125 rfl (lv_at hl 1 rfl) ?_
                    refine lv_dup hx hb dX12_cost_126 rfl ?_
                    refine va_get (D := (dC, dI)) (ci := 12) (v := .int zs) (C := RX12) (T := TX12) (N := 40) hx hb hts in_X12 hown hK hP 0 rfl rfl 22 (by decide) (hts (.fieldLink RX12 148 "TextMenderModel" "state" "I") (List.mem_of_getElem? (i := 6) rfl)) (fun _ h9 => h9) rfl dX12_cost_127 ?_
                    refine lv_iconst (v := 1) hx hb dX12_cost_130 (by decide) ?_
                    refine lv_iadd hx hb dX12_cost_131 ?_
                    refine lv_topi (fun x_15 ex_15 => ?_)
                    have tx_15 : x_15.toInt = zs.toInt + 1 := v_add ex_15 (by show -2147483648 ≤ zs.toInt + 1; omega) (by show zs.toInt + 1 < 2147483648; omega)
                    refine va_put (D := (dC, dI)) (ci := 12) (v := .int x_15) (ty := .int) (C := RX12) (T := TX12) (N := 40) hx hb hts in_X12 tyX12 tyX12_ok nmX12 hown hK hP hD hS 0 rfl rfl 22 (by decide) (hts (.fieldLink RX12 148 "TextMenderModel" "state" "I") (List.mem_of_getElem? (i := 6) rfl)) (fun _ h9 => h9) rfl (by decide +kernel) rfl rfl (Nat.le_of_ble_eq_true rfl) dX12_cost_132 (fun H locs hP hD hS => ?_)
                    have hP : va_P (dC, dI) vwCl [(oM, .inr (12, [.ref mT, .int zt, .ref mS, .ref mX, .int zp, .int zf, .ref mL, .ref mB, .ref mD, .ref m1, .ref m2, .int zh, .ref mR, .int zr, .ref x1, .ref x2, .ref x3, .int x_14, .ref mH, .int zy, .int za, .int zb, .int x_15, .int zq, .int zw, .int 0, .ref mY, .int zn, .ref mE, .int zm, .int zl, .ref mW, .int zk, .ref mO, .int zd, .ref y1, .ref y2, .ref y3, .ref y4, .ref mZ])), (x1, .inl (cI, 300, .inl f_9)), (x2, .inl (cI, 300, .inl f_10)), (x3, .inl (cI, 300, .inl f_11))] H := hP
                    have hD : va_D A [(oM, .inr (12, [.ref mT, .int zt, .ref mS, .ref mX, .int zp, .int zf, .ref mL, .ref mB, .ref mD, .ref m1, .ref m2, .int zh, .ref mR, .int zr, .ref x1, .ref x2, .ref x3, .int x_14, .ref mH, .int zy, .int za, .int zb, .int x_15, .int zq, .int zw, .int 0, .ref mY, .int zn, .ref mE, .int zm, .int zl, .ref mW, .int zk, .ref mO, .int zd, .ref y1, .ref y2, .ref y3, .ref y4, .ref mZ])), (x1, .inl (cI, 300, .inl f_9)), (x2, .inl (cI, 300, .inl f_10)), (x3, .inl (cI, 300, .inl f_11))] := hD
                    refine lv_iconst (v := 1) hx hb dX12_cost_135 (by decide) ?_
                    have hP9 := hP.sub (ws' := [(oM, .inr (12, [.ref mT, .int zt, .ref mS, .ref mX, .int zp, .int zf, .ref mL, .ref mB, .ref mD, .ref m1, .ref m2, .int zh, .ref mR, .int zr, .ref x1, .ref x2, .ref x3, .int x_14, .ref mH, .int zy, .int za, .int zb, .int x_15, .int zq, .int zw, .int 0, .ref mY, .int zn, .ref mE, .int zm, .int zl, .ref mW, .int zk, .ref mO, .int zd, .ref y1, .ref y2, .ref y3, .ref y4, .ref mZ])), (x1, .inl (cI, 300, .inl f_9)), (x2, .inl (cI, 300, .inl f_10)), (x3, .inl (cI, 300, .inl f_11))]) [0, 1, 2, 3] rfl
                    have hD9 := hD.sub (ws' := [(oM, .inr (12, [.ref mT, .int zt, .ref mS, .ref mX, .int zp, .int zf, .ref mL, .ref mB, .ref mD, .ref m1, .ref m2, .int zh, .ref mR, .int zr, .ref x1, .ref x2, .ref x3, .int x_14, .ref mH, .int zy, .int za, .int zb, .int x_15, .int zq, .int zw, .int 0, .ref mY, .int zn, .ref mE, .int zm, .int zl, .ref mW, .int zk, .ref mO, .int zd, .ref y1, .ref y2, .ref y3, .ref y4, .ref mZ])), (x1, .inl (cI, 300, .inl f_9)), (x2, .inl (cI, 300, .inl f_10)), (x3, .inl (cI, 300, .inl f_11))]) [0, 1, 2, 3] (by decide) rfl
                    rw [hQQ]
                    exact W.zret (v := 1) (ty := .boolean) hx hb hr (rfl) (fun t ht hW => ⟨⟨1, 1, rfl, rfl, ⟨0, x_14, f_9, f_10, f_11, x_15, by rw [ht]; exact hP9, hD9, by omega, by omega, by decide, by show x_15.toInt ≤ zs.toInt + 1 ∧ zs.toInt ≤ x_15.toInt; omega, Or.inl ⟨by unfold isLq; omega, by unfold isLq; omega, Or.inl ⟨rfl, by unfold okv; omega, Or.inr ⟨fun j hj => hno j (by omega), by omega, by omega, (v_inj (by omega) : k = zc) ▸ ef_9, (v_inj (by omega) : k = zc) ▸ ef_10, (v_inj (by omega) : k = zc) ▸ ef_11⟩⟩⟩, by first | exact Or.inl ⟨by first | rfl | omega, rfl⟩ | exact Or.inr ⟨by first | decide | omega, by omega⟩⟩⟩, hS.F ht⟩) hS.2.2 dX12_cost_136
                · have tc_8 : k.toInt = 300 := v_eq c_8
                  refine lv_iconst (v := 0) hx hb dX12_cost_80 (by decide) ?_
                  have hP9 := hP.sub (ws' := [(oM, .inr (12, [.ref mT, .int zt, .ref mS, .ref mX, .int zp, .int zf, .ref mL, .ref mB, .ref mD, .ref m1, .ref m2, .int zh, .ref mR, .int zr, .ref x1, .ref x2, .ref x3, .int zc, .ref mH, .int zy, .int za, .int zb, .int zs, .int zq, .int zw, .int 0, .ref mY, .int zn, .ref mE, .int zm, .int zl, .ref mW, .int zk, .ref mO, .int zd, .ref y1, .ref y2, .ref y3, .ref y4, .ref mZ])), (x1, .inl (cI, 300, .inl ec1)), (x2, .inl (cI, 300, .inl ec2)), (x3, .inl (cI, 300, .inl ec3))]) [0, 1, 2, 3] rfl
                  have hD9 := hD.sub (ws' := [(oM, .inr (12, [.ref mT, .int zt, .ref mS, .ref mX, .int zp, .int zf, .ref mL, .ref mB, .ref mD, .ref m1, .ref m2, .int zh, .ref mR, .int zr, .ref x1, .ref x2, .ref x3, .int zc, .ref mH, .int zy, .int za, .int zb, .int zs, .int zq, .int zw, .int 0, .ref mY, .int zn, .ref mE, .int zm, .int zl, .ref mW, .int zk, .ref mO, .int zd, .ref y1, .ref y2, .ref y3, .ref y4, .ref mZ])), (x1, .inl (cI, 300, .inl ec1)), (x2, .inl (cI, 300, .inl ec2)), (x3, .inl (cI, 300, .inl ec3))]) [0, 1, 2, 3] (by decide) rfl
                  rw [hQQ]
                  exact W.zret (v := 0) (ty := .boolean) hx hb hr (rfl) (fun t ht hW => ⟨⟨0, 0, rfl, rfl, ⟨0, zc, ec1, ec2, ec3, zs, by rw [ht]; exact hP9, hD9, by omega, by omega, by decide, by show zs.toInt ≤ zs.toInt + 1 ∧ zs.toInt ≤ zs.toInt; omega, Or.inl ⟨by unfold isLq; omega, by unfold isLq; omega, Or.inr ⟨rfl, Or.inr ⟨fun j hj => hno j (by omega), by omega⟩, rfl, rfl, rfl, rfl⟩⟩, by first | exact Or.inl ⟨by first | rfl | omega, rfl⟩ | exact Or.inr ⟨by first | decide | omega, by omega⟩⟩⟩, hS.F ht⟩) hS.2.2 dX12_cost_81
              · have tc_7 : k.toInt < zc.toInt := v_nle c_7
                refine lv_aload_n hx hb dX12_cost_44 rfl (lv_at hl 1 rfl) ?_
                refine va_get (D := (dC, dI)) (ci := 12) (v := .ref x1) (C := RX12) (T := TX12) (N := 40) hx hb hts in_X12 hown hK hP 0 rfl rfl 14 (by decide) (hts (.fieldLink RX12 39 "TextMenderModel" "costX" "[I") (List.mem_of_getElem? (i := 3) rfl)) (fun _ h9 => h9) rfl dX12_cost_45 ?_
                refine lv_iload hx hb dX12_cost_48 (lv_at hl 0 rfl) ?_
                refine va_iald hx hb hK hP 1 0 rfl rfl (v_in (by omega)) dX12_cost_50 ?_
                refine lv_topi (fun x_16 ex_16 => ?_)
                refine lv_iload_n hx hb dX12_cost_51 rfl (lv_at hl 2 rfl) ?_
                refine lv_icmp_ne (tgt := 66) hx hb dX12_cost_52 (by decide) (fun c_17 => ?_) (fun c_17 => ?_)
                · have tc_17 : ¬ x_16.toInt = x.toInt := v_ne c_17
                  have rw17_0 := v_rng x_16
                  obtain ⟨x_18, ex_18⟩ : ∃ y : Int32, y = k + 1 := ⟨_, rfl⟩
                  have tx_18 : x_18.toInt = k.toInt + 1 := v_add ex_18 (by show -2147483648 ≤ k.toInt + 1; omega) (by show k.toInt + 1 < 2147483648; omega)
                  refine lv_iinc (v := x_18) (lv' := [(4, .int x_18), (0, .ref oM), (1, .int x), (2, .int y), (3, .int v)]) hx hb dX12_cost_66 hl (k := 0) rfl (by rw [ex_18]; rfl) (by decide) rfl (fun ls hl => ?_)
                  refine lv_goto (tgt := 35) hx hb dX12_cost_69 (by decide) ?_
                  exact ih_35 x_18 _ _ _ (by have hm9 := hm_35; show ((300 - x_18.toInt : Int)).toNat < k_35; omega) (by show 0 ≤ x_18.toInt ∧ x_18.toInt ≤ 300; omega) (by show x_18.toInt ≤ zc.toInt; omega) (noP_s1 hno ex_16 c_17 (by omega) (by omega)) hP hD hS (lv_sub hl [0, 1, 2, 3, 4] rfl)
                · have tc_17 : x_16.toInt = x.toInt := v_eq c_17
                  have rw17_0 := v_rng x_16
                  refine lv_aload_n hx hb dX12_cost_55 rfl (lv_at hl 1 rfl) ?_
                  refine va_get (D := (dC, dI)) (ci := 12) (v := .ref x2) (C := RX12) (T := TX12) (N := 40) hx hb hts in_X12 hown hK hP 0 rfl rfl 15 (by decide) (hts (.fieldLink RX12 42 "TextMenderModel" "costY" "[I") (List.mem_of_getElem? (i := 4) rfl)) (fun _ h9 => h9) rfl dX12_cost_56 ?_
                  refine lv_iload hx hb dX12_cost_59 (lv_at hl 0 rfl) ?_
                  refine va_iald hx hb hK hP 2 0 rfl rfl (v_in (by omega)) dX12_cost_61 ?_
                  refine lv_topi (fun x_19 ex_19 => ?_)
                  refine lv_iload_n hx hb dX12_cost_62 rfl (lv_at hl 3 rfl) ?_
                  refine lv_icmp_eq (tgt := 72) hx hb dX12_cost_63 (by decide) (fun c_20 => ?_) (fun c_20 => ?_)
                  · have tc_20 : x_19.toInt = y.toInt := v_eq c_20
                    have rw20_0 := v_rng x_19
                    refine lv_iload hx hb dX12_cost_72 (lv_at hl 0 rfl) ?_
                    refine lv_sipush (v := 300) hx hb dX12_cost_74 (by decide) ?_
                    refine lv_icmp_ne (tgt := 82) hx hb dX12_cost_77 (by decide) (fun c_21 => ?_) (fun c_21 => by exfalso; have tc_21 : k.toInt = 300 := v_eq c_21; omega)
                    have tc_21 : ¬ k.toInt = 300 := v_ne c_21
                    refine lv_aload_n hx hb dX12_cost_82 rfl (lv_at hl 1 rfl) ?_
                    refine va_get (D := (dC, dI)) (ci := 12) (v := .ref x1) (C := RX12) (T := TX12) (N := 40) hx hb hts in_X12 hown hK hP 0 rfl rfl 14 (by decide) (hts (.fieldLink RX12 39 "TextMenderModel" "costX" "[I") (List.mem_of_getElem? (i := 3) rfl)) (fun _ h9 => h9) rfl dX12_cost_83 ?_
                    refine lv_iload hx hb dX12_cost_86 (lv_at hl 0 rfl) ?_
                    refine lv_iload_n hx hb dX12_cost_88 rfl (lv_at hl 2 rfl) ?_
                    refine va_iast hx hb hK hP hD hS 1 0 rfl rfl (v_in (by omega)) dX12_cost_89 (fun H locs hP hD hS => ?_)
                    have hP : va_P (dC, dI) vwCl [(oM, .inr (12, [.ref mT, .int zt, .ref mS, .ref mX, .int zp, .int zf, .ref mL, .ref mB, .ref mD, .ref m1, .ref m2, .int zh, .ref mR, .int zr, .ref x1, .ref x2, .ref x3, .int zc, .ref mH, .int zy, .int za, .int zb, .int zs, .int zq, .int zw, .int 0, .ref mY, .int zn, .ref mE, .int zm, .int zl, .ref mW, .int zk, .ref mO, .int zd, .ref y1, .ref y2, .ref y3, .ref y4, .ref mZ])), (x1, .inl (cI, 300, .inl (upd ec1 (k : Int32).toNatClampNeg x))), (x2, .inl (cI, 300, .inl ec2)), (x3, .inl (cI, 300, .inl ec3))] H := hP
                    have hD : va_D A [(oM, .inr (12, [.ref mT, .int zt, .ref mS, .ref mX, .int zp, .int zf, .ref mL, .ref mB, .ref mD, .ref m1, .ref m2, .int zh, .ref mR, .int zr, .ref x1, .ref x2, .ref x3, .int zc, .ref mH, .int zy, .int za, .int zb, .int zs, .int zq, .int zw, .int 0, .ref mY, .int zn, .ref mE, .int zm, .int zl, .ref mW, .int zk, .ref mO, .int zd, .ref y1, .ref y2, .ref y3, .ref y4, .ref mZ])), (x1, .inl (cI, 300, .inl (upd ec1 (k : Int32).toNatClampNeg x))), (x2, .inl (cI, 300, .inl ec2)), (x3, .inl (cI, 300, .inl ec3))] := hD
                    obtain ⟨f_22, ef_22⟩ : ∃ g : Nat → Int32, g = upd ec1 (k : Int32).toNatClampNeg x := ⟨_, rfl⟩
                    rw [← ef_22] at hP hD
                    refine lv_aload_n hx hb dX12_cost_90 rfl (lv_at hl 1 rfl) ?_
                    refine va_get (D := (dC, dI)) (ci := 12) (v := .ref x2) (C := RX12) (T := TX12) (N := 40) hx hb hts in_X12 hown hK hP 0 rfl rfl 15 (by decide) (hts (.fieldLink RX12 42 "TextMenderModel" "costY" "[I") (List.mem_of_getElem? (i := 4) rfl)) (fun _ h9 => h9) rfl dX12_cost_91 ?_
                    refine lv_iload hx hb dX12_cost_94 (lv_at hl 0 rfl) ?_
                    refine lv_iload_n hx hb dX12_cost_96 rfl (lv_at hl 3 rfl) ?_
                    refine va_iast hx hb hK hP hD hS 2 0 rfl rfl (v_in (by omega)) dX12_cost_97 (fun H locs hP hD hS => ?_)
                    have hP : va_P (dC, dI) vwCl [(oM, .inr (12, [.ref mT, .int zt, .ref mS, .ref mX, .int zp, .int zf, .ref mL, .ref mB, .ref mD, .ref m1, .ref m2, .int zh, .ref mR, .int zr, .ref x1, .ref x2, .ref x3, .int zc, .ref mH, .int zy, .int za, .int zb, .int zs, .int zq, .int zw, .int 0, .ref mY, .int zn, .ref mE, .int zm, .int zl, .ref mW, .int zk, .ref mO, .int zd, .ref y1, .ref y2, .ref y3, .ref y4, .ref mZ])), (x1, .inl (cI, 300, .inl f_22)), (x2, .inl (cI, 300, .inl (upd ec2 (k : Int32).toNatClampNeg y))), (x3, .inl (cI, 300, .inl ec3))] H := hP
                    have hD : va_D A [(oM, .inr (12, [.ref mT, .int zt, .ref mS, .ref mX, .int zp, .int zf, .ref mL, .ref mB, .ref mD, .ref m1, .ref m2, .int zh, .ref mR, .int zr, .ref x1, .ref x2, .ref x3, .int zc, .ref mH, .int zy, .int za, .int zb, .int zs, .int zq, .int zw, .int 0, .ref mY, .int zn, .ref mE, .int zm, .int zl, .ref mW, .int zk, .ref mO, .int zd, .ref y1, .ref y2, .ref y3, .ref y4, .ref mZ])), (x1, .inl (cI, 300, .inl f_22)), (x2, .inl (cI, 300, .inl (upd ec2 (k : Int32).toNatClampNeg y))), (x3, .inl (cI, 300, .inl ec3))] := hD
                    obtain ⟨f_23, ef_23⟩ : ∃ g : Nat → Int32, g = upd ec2 (k : Int32).toNatClampNeg y := ⟨_, rfl⟩
                    rw [← ef_23] at hP hD
                    refine lv_aload_n hx hb dX12_cost_98 rfl (lv_at hl 1 rfl) ?_
                    refine va_get (D := (dC, dI)) (ci := 12) (v := .ref x3) (C := RX12) (T := TX12) (N := 40) hx hb hts in_X12 hown hK hP 0 rfl rfl 16 (by decide) (hts (.fieldLink RX12 45 "TextMenderModel" "costV" "[I") (List.mem_of_getElem? (i := 5) rfl)) (fun _ h9 => h9) rfl dX12_cost_99 ?_
                    refine lv_iload hx hb dX12_cost_102 (lv_at hl 0 rfl) ?_
                    refine lv_iload_n hx hb dX12_cost_104 rfl (lv_at hl 4 rfl) ?_
                    refine va_iast hx hb hK hP hD hS 3 0 rfl rfl (v_in (by omega)) dX12_cost_105 (fun H locs hP hD hS => ?_)
                    have hP : va_P (dC, dI) vwCl [(oM, .inr (12, [.ref mT, .int zt, .ref mS, .ref mX, .int zp, .int zf, .ref mL, .ref mB, .ref mD, .ref m1, .ref m2, .int zh, .ref mR, .int zr, .ref x1, .ref x2, .ref x3, .int zc, .ref mH, .int zy, .int za, .int zb, .int zs, .int zq, .int zw, .int 0, .ref mY, .int zn, .ref mE, .int zm, .int zl, .ref mW, .int zk, .ref mO, .int zd, .ref y1, .ref y2, .ref y3, .ref y4, .ref mZ])), (x1, .inl (cI, 300, .inl f_22)), (x2, .inl (cI, 300, .inl f_23)), (x3, .inl (cI, 300, .inl (upd ec3 (k : Int32).toNatClampNeg v)))] H := hP
                    have hD : va_D A [(oM, .inr (12, [.ref mT, .int zt, .ref mS, .ref mX, .int zp, .int zf, .ref mL, .ref mB, .ref mD, .ref m1, .ref m2, .int zh, .ref mR, .int zr, .ref x1, .ref x2, .ref x3, .int zc, .ref mH, .int zy, .int za, .int zb, .int zs, .int zq, .int zw, .int 0, .ref mY, .int zn, .ref mE, .int zm, .int zl, .ref mW, .int zk, .ref mO, .int zd, .ref y1, .ref y2, .ref y3, .ref y4, .ref mZ])), (x1, .inl (cI, 300, .inl f_22)), (x2, .inl (cI, 300, .inl f_23)), (x3, .inl (cI, 300, .inl (upd ec3 (k : Int32).toNatClampNeg v)))] := hD
                    obtain ⟨f_24, ef_24⟩ : ∃ g : Nat → Int32, g = upd ec3 (k : Int32).toNatClampNeg v := ⟨_, rfl⟩
                    rw [← ef_24] at hP hD
                    refine lv_iload hx hb dX12_cost_106 (lv_at hl 0 rfl) ?_
                    refine lv_aload_n hx hb dX12_cost_108 rfl (lv_at hl 1 rfl) ?_
                    refine va_get (D := (dC, dI)) (ci := 12) (v := .int zc) (C := RX12) (T := TX12) (N := 40) hx hb hts in_X12 hown hK hP 0 rfl rfl 17 (by decide) (hts (.fieldLink RX12 168 "TextMenderModel" "costs" "I") (List.mem_of_getElem? (i := 2) rfl)) (fun _ h9 => h9) rfl dX12_cost_109 ?_
                    refine lv_icmp_ne (tgt := 125) hx hb dX12_cost_112 (by decide) (fun c_25 => ?_) (fun c_25 => ?_)
                    · have tc_25 : ¬ k.toInt = zc.toInt := v_ne c_25
                      refine lv_aload_n hx hb dX12_cost_125 rfl (lv_at hl 1 rfl) ?_
                      refine lv_dup hx hb dX12_cost_126 rfl ?_
                      refine va_get (D := (dC, dI)) (ci := 12) (v := .int zs) (C := RX12) (T := TX12) (N := 40) hx hb hts in_X12 hown hK hP 0 rfl rfl 22 (by decide) (hts (.fieldLink RX12 148 "TextMenderModel" "state" "I") (List.mem_of_getElem? (i := 6) rfl)) (fun _ h9 => h9) rfl dX12_cost_127 ?_
                      refine lv_iconst (v := 1) hx hb dX12_cost_130 (by decide) ?_
                      refine lv_iadd hx hb dX12_cost_131 ?_
                      refine lv_topi (fun x_26 ex_26 => ?_)
                      have tx_26 : x_26.toInt = zs.toInt + 1 := v_add ex_26 (by show -2147483648 ≤ zs.toInt + 1; omega) (by show zs.toInt + 1 < 2147483648; omega)
                      refine va_put (D := (dC, dI)) (ci := 12) (v := .int x_26) (ty := .int) (C := RX12) (T := TX12) (N := 40) hx hb hts in_X12 tyX12 tyX12_ok nmX12 hown hK hP hD hS 0 rfl rfl 22 (by decide) (hts (.fieldLink RX12 148 "TextMenderModel" "state" "I") (List.mem_of_getElem? (i := 6) rfl)) (fun _ h9 => h9) rfl (by decide +kernel) rfl rfl (Nat.le_of_ble_eq_true rfl) dX12_cost_132 (fun H locs hP hD hS => ?_)
                      have hP : va_P (dC, dI) vwCl [(oM, .inr (12, [.ref mT, .int zt, .ref mS, .ref mX, .int zp, .int zf, .ref mL, .ref mB, .ref mD, .ref m1, .ref m2, .int zh, .ref mR, .int zr, .ref x1, .ref x2, .ref x3, .int zc, .ref mH, .int zy, .int za, .int zb, .int x_26, .int zq, .int zw, .int 0, .ref mY, .int zn, .ref mE, .int zm, .int zl, .ref mW, .int zk, .ref mO, .int zd, .ref y1, .ref y2, .ref y3, .ref y4, .ref mZ])), (x1, .inl (cI, 300, .inl f_22)), (x2, .inl (cI, 300, .inl f_23)), (x3, .inl (cI, 300, .inl f_24))] H := hP
                      have hD : va_D A [(oM, .inr (12, [.ref mT, .int zt, .ref mS, .ref mX, .int zp, .int zf, .ref mL, .ref mB, .ref mD, .ref m1, .ref m2, .int zh, .ref mR, .int zr, .ref x1, .ref x2, .ref x3, .int zc, .ref mH, .int zy, .int za, .int zb, .int x_26, .int zq, .int zw, .int 0, .ref mY, .int zn, .ref mE, .int zm, .int zl, .ref mW, .int zk, .ref mO, .int zd, .ref y1, .ref y2, .ref y3, .ref y4, .ref mZ])), (x1, .inl (cI, 300, .inl f_22)), (x2, .inl (cI, 300, .inl f_23)), (x3, .inl (cI, 300, .inl f_24))] := hD
                      refine lv_iconst (v := 1) hx hb dX12_cost_135 (by decide) ?_
                      have hP9 := hP.sub (ws' := [(oM, .inr (12, [.ref mT, .int zt, .ref mS, .ref mX, .int zp, .int zf, .ref mL, .ref mB, .ref mD, .ref m1, .ref m2, .int zh, .ref mR, .int zr, .ref x1, .ref x2, .ref x3, .int zc, .ref mH, .int zy, .int za, .int zb, .int x_26, .int zq, .int zw, .int 0, .ref mY, .int zn, .ref mE, .int zm, .int zl, .ref mW, .int zk, .ref mO, .int zd, .ref y1, .ref y2, .ref y3, .ref y4, .ref mZ])), (x1, .inl (cI, 300, .inl f_22)), (x2, .inl (cI, 300, .inl f_23)), (x3, .inl (cI, 300, .inl f_24))]) [0, 1, 2, 3] rfl
                      have hD9 := hD.sub (ws' := [(oM, .inr (12, [.ref mT, .int zt, .ref mS, .ref mX, .int zp, .int zf, .ref mL, .ref mB, .ref mD, .ref m1, .ref m2, .int zh, .ref mR, .int zr, .ref x1, .ref x2, .ref x3, .int zc, .ref mH, .int zy, .int za, .int zb, .int x_26, .int zq, .int zw, .int 0, .ref mY, .int zn, .ref mE, .int zm, .int zl, .ref mW, .int zk, .ref mO, .int zd, .ref y1, .ref y2, .ref y3, .ref y4, .ref mZ])), (x1, .inl (cI, 300, .inl f_22)), (x2, .inl (cI, 300, .inl f_23)), (x3, .inl (cI, 300, .inl f_24))]) [0, 1, 2, 3] (by decide) rfl
                      rw [hQQ]
                      exact W.zret (v := 1) (ty := .boolean) hx hb hr (rfl) (fun t ht hW => ⟨⟨1, 1, rfl, rfl, ⟨0, zc, f_22, f_23, f_24, x_26, by rw [ht]; exact hP9, hD9, by omega, by omega, by decide, by show x_26.toInt ≤ zs.toInt + 1 ∧ zs.toInt ≤ x_26.toInt; omega, Or.inl ⟨by unfold isLq; omega, by unfold isLq; omega, Or.inl ⟨rfl, by unfold okv; omega, Or.inl ⟨isP_at ex_16 ex_19 c_17 c_20 (by omega) (by omega), by omega, k.toNatClampNeg, by rw [← ex_16]; exact c_17, by rw [← ex_19]; exact c_20, ef_22, ef_23, ef_24, by have c9 := v_clamp (x := k) (by omega); omega, fun j hj => hno j (by have c9 := v_clamp (x := k) (by omega); omega)⟩⟩⟩, by first | exact Or.inl ⟨by first | rfl | omega, rfl⟩ | exact Or.inr ⟨by first | decide | omega, by omega⟩⟩⟩, hS.F ht⟩) hS.2.2 dX12_cost_136
                    · have tc_25 : k.toInt = zc.toInt := v_eq c_25
                      refine lv_aload_n hx hb dX12_cost_115 rfl (lv_at hl 1 rfl) ?_
                      refine lv_dup hx hb dX12_cost_116 rfl ?_
                      refine va_get (D := (dC, dI)) (ci := 12) (v := .int zc) (C := RX12) (T := TX12) (N := 40) hx hb hts in_X12 hown hK hP 0 rfl rfl 17 (by decide) (hts (.fieldLink RX12 168 "TextMenderModel" "costs" "I") (List.mem_of_getElem? (i := 2) rfl)) (fun _ h9 => h9) rfl dX12_cost_117 ?_
                      refine lv_iconst (v := 1) hx hb dX12_cost_120 (by decide) ?_
                      refine lv_iadd hx hb dX12_cost_121 ?_
                      refine lv_topi (fun x_27 ex_27 => ?_)
                      have tx_27 : x_27.toInt = zc.toInt + 1 := v_add ex_27 (by show -2147483648 ≤ zc.toInt + 1; omega) (by show zc.toInt + 1 < 2147483648; omega)
                      refine va_put (D := (dC, dI)) (ci := 12) (v := .int x_27) (ty := .int) (C := RX12) (T := TX12) (N := 40) hx hb hts in_X12 tyX12 tyX12_ok nmX12 hown hK hP hD hS 0 rfl rfl 17 (by decide) (hts (.fieldLink RX12 168 "TextMenderModel" "costs" "I") (List.mem_of_getElem? (i := 2) rfl)) (fun _ h9 => h9) rfl (by decide +kernel) rfl rfl (Nat.le_of_ble_eq_true rfl) dX12_cost_122 (fun H locs hP hD hS => ?_)
                      have hP : va_P (dC, dI) vwCl [(oM, .inr (12, [.ref mT, .int zt, .ref mS, .ref mX, .int zp, .int zf, .ref mL, .ref mB, .ref mD, .ref m1, .ref m2, .int zh, .ref mR, .int zr, .ref x1, .ref x2, .ref x3, .int x_27, .ref mH, .int zy, .int za, .int zb, .int zs, .int zq, .int zw, .int 0, .ref mY, .int zn, .ref mE, .int zm, .int zl, .ref mW, .int zk, .ref mO, .int zd, .ref y1, .ref y2, .ref y3, .ref y4, .ref mZ])), (x1, .inl (cI, 300, .inl f_22)), (x2, .inl (cI, 300, .inl f_23)), (x3, .inl (cI, 300, .inl f_24))] H := hP
                      have hD : va_D A [(oM, .inr (12, [.ref mT, .int zt, .ref mS, .ref mX, .int zp, .int zf, .ref mL, .ref mB, .ref mD, .ref m1, .ref m2, .int zh, .ref mR, .int zr, .ref x1, .ref x2, .ref x3, .int x_27, .ref mH, .int zy, .int za, .int zb, .int zs, .int zq, .int zw, .int 0, .ref mY, .int zn, .ref mE, .int zm, .int zl, .ref mW, .int zk, .ref mO, .int zd, .ref y1, .ref y2, .ref y3, .ref y4, .ref mZ])), (x1, .inl (cI, 300, .inl f_22)), (x2, .inl (cI, 300, .inl f_23)), (x3, .inl (cI, 300, .inl f_24))] := hD
                      refine lv_aload_n hx hb dX12_cost_125 rfl (lv_at hl 1 rfl) ?_
                      refine lv_dup hx hb dX12_cost_126 rfl ?_
                      refine va_get (D := (dC, dI)) (ci := 12) (v := .int zs) (C := RX12) (T := TX12) (N := 40) hx hb hts in_X12 hown hK hP 0 rfl rfl 22 (by decide) (hts (.fieldLink RX12 148 "TextMenderModel" "state" "I") (List.mem_of_getElem? (i := 6) rfl)) (fun _ h9 => h9) rfl dX12_cost_127 ?_
                      refine lv_iconst (v := 1) hx hb dX12_cost_130 (by decide) ?_
                      refine lv_iadd hx hb dX12_cost_131 ?_
                      refine lv_topi (fun x_28 ex_28 => ?_)
                      have tx_28 : x_28.toInt = zs.toInt + 1 := v_add ex_28 (by show -2147483648 ≤ zs.toInt + 1; omega) (by show zs.toInt + 1 < 2147483648; omega)
                      refine va_put (D := (dC, dI)) (ci := 12) (v := .int x_28) (ty := .int) (C := RX12) (T := TX12) (N := 40) hx hb hts in_X12 tyX12 tyX12_ok nmX12 hown hK hP hD hS 0 rfl rfl 22 (by decide) (hts (.fieldLink RX12 148 "TextMenderModel" "state" "I") (List.mem_of_getElem? (i := 6) rfl)) (fun _ h9 => h9) rfl (by decide +kernel) rfl rfl (Nat.le_of_ble_eq_true rfl) dX12_cost_132 (fun H locs hP hD hS => ?_)
                      have hP : va_P (dC, dI) vwCl [(oM, .inr (12, [.ref mT, .int zt, .ref mS, .ref mX, .int zp, .int zf, .ref mL, .ref mB, .ref mD, .ref m1, .ref m2, .int zh, .ref mR, .int zr, .ref x1, .ref x2, .ref x3, .int x_27, .ref mH, .int zy, .int za, .int zb, .int x_28, .int zq, .int zw, .int 0, .ref mY, .int zn, .ref mE, .int zm, .int zl, .ref mW, .int zk, .ref mO, .int zd, .ref y1, .ref y2, .ref y3, .ref y4, .ref mZ])), (x1, .inl (cI, 300, .inl f_22)), (x2, .inl (cI, 300, .inl f_23)), (x3, .inl (cI, 300, .inl f_24))] H := hP
                      have hD : va_D A [(oM, .inr (12, [.ref mT, .int zt, .ref mS, .ref mX, .int zp, .int zf, .ref mL, .ref mB, .ref mD, .ref m1, .ref m2, .int zh, .ref mR, .int zr, .ref x1, .ref x2, .ref x3, .int x_27, .ref mH, .int zy, .int za, .int zb, .int x_28, .int zq, .int zw, .int 0, .ref mY, .int zn, .ref mE, .int zm, .int zl, .ref mW, .int zk, .ref mO, .int zd, .ref y1, .ref y2, .ref y3, .ref y4, .ref mZ])), (x1, .inl (cI, 300, .inl f_22)), (x2, .inl (cI, 300, .inl f_23)), (x3, .inl (cI, 300, .inl f_24))] := hD
                      refine lv_iconst (v := 1) hx hb dX12_cost_135 (by decide) ?_
                      have hP9 := hP.sub (ws' := [(oM, .inr (12, [.ref mT, .int zt, .ref mS, .ref mX, .int zp, .int zf, .ref mL, .ref mB, .ref mD, .ref m1, .ref m2, .int zh, .ref mR, .int zr, .ref x1, .ref x2, .ref x3, .int x_27, .ref mH, .int zy, .int za, .int zb, .int x_28, .int zq, .int zw, .int 0, .ref mY, .int zn, .ref mE, .int zm, .int zl, .ref mW, .int zk, .ref mO, .int zd, .ref y1, .ref y2, .ref y3, .ref y4, .ref mZ])), (x1, .inl (cI, 300, .inl f_22)), (x2, .inl (cI, 300, .inl f_23)), (x3, .inl (cI, 300, .inl f_24))]) [0, 1, 2, 3] rfl
                      have hD9 := hD.sub (ws' := [(oM, .inr (12, [.ref mT, .int zt, .ref mS, .ref mX, .int zp, .int zf, .ref mL, .ref mB, .ref mD, .ref m1, .ref m2, .int zh, .ref mR, .int zr, .ref x1, .ref x2, .ref x3, .int x_27, .ref mH, .int zy, .int za, .int zb, .int x_28, .int zq, .int zw, .int 0, .ref mY, .int zn, .ref mE, .int zm, .int zl, .ref mW, .int zk, .ref mO, .int zd, .ref y1, .ref y2, .ref y3, .ref y4, .ref mZ])), (x1, .inl (cI, 300, .inl f_22)), (x2, .inl (cI, 300, .inl f_23)), (x3, .inl (cI, 300, .inl f_24))]) [0, 1, 2, 3] (by decide) rfl
                      rw [hQQ]
                      exact W.zret (v := 1) (ty := .boolean) hx hb hr (rfl) (fun t ht hW => ⟨⟨1, 1, rfl, rfl, ⟨0, x_27, f_22, f_23, f_24, x_28, by rw [ht]; exact hP9, hD9, by omega, by omega, by decide, by show x_28.toInt ≤ zs.toInt + 1 ∧ zs.toInt ≤ x_28.toInt; omega, Or.inl ⟨by unfold isLq; omega, by unfold isLq; omega, Or.inl ⟨rfl, by unfold okv; omega, Or.inl ⟨isP_at ex_16 ex_19 c_17 c_20 (by omega) (by omega), by omega, k.toNatClampNeg, by rw [← ex_16]; exact c_17, by rw [← ex_19]; exact c_20, ef_22, ef_23, ef_24, by have c9 := v_clamp (x := k) (by omega); omega, fun j hj => hno j (by have c9 := v_clamp (x := k) (by omega); omega)⟩⟩⟩, by first | exact Or.inl ⟨by first | rfl | omega, rfl⟩ | exact Or.inr ⟨by first | decide | omega, by omega⟩⟩⟩, hS.F ht⟩) hS.2.2 dX12_cost_136
                  · have tc_20 : ¬ x_19.toInt = y.toInt := v_ne c_20
                    have rw20_0 := v_rng x_19
                    obtain ⟨x_29, ex_29⟩ : ∃ y : Int32, y = k + 1 := ⟨_, rfl⟩
                    have tx_29 : x_29.toInt = k.toInt + 1 := v_add ex_29 (by show -2147483648 ≤ k.toInt + 1; omega) (by show k.toInt + 1 < 2147483648; omega)
                    refine lv_iinc (v := x_29) (lv' := [(4, .int x_29), (0, .ref oM), (1, .int x), (2, .int y), (3, .int v)]) hx hb dX12_cost_66 hl (k := 0) rfl (by rw [ex_29]; rfl) (by decide) rfl (fun ls hl => ?_)
                    refine lv_goto (tgt := 35) hx hb dX12_cost_69 (by decide) ?_
                    exact ih_35 x_29 _ _ _ (by have hm9 := hm_35; show ((300 - x_29.toInt : Int)).toNat < k_35; omega) (by show 0 ≤ x_29.toInt ∧ x_29.toInt ≤ 300; omega) (by show x_29.toInt ≤ zc.toInt; omega) (noP_s2 hno ex_19 c_20 (by omega) (by omega)) hP hD hS (lv_sub hl [0, 1, 2, 3, 4] rfl)
          exact LOOP_35 _ 0 _ _ _ (Nat.lt_succ_self _) (by decide) (by show 0 ≤ zc.toInt; omega) (noP_0 (by decide)) hP hD hS (lv_sub hl [0, 1, 2, 3, 4] rfl)
        · have tc_6 : 200 < v.toInt := v_nle c_6
          refine lv_iconst (v := 0) hx hb dX12_cost_30 (by decide) ?_
          have hP9 := hP.sub (ws' := [(oM, .inr (12, [.ref mT, .int zt, .ref mS, .ref mX, .int zp, .int zf, .ref mL, .ref mB, .ref mD, .ref m1, .ref m2, .int zh, .ref mR, .int zr, .ref x1, .ref x2, .ref x3, .int zc, .ref mH, .int zy, .int za, .int zb, .int zs, .int zq, .int zw, .int 0, .ref mY, .int zn, .ref mE, .int zm, .int zl, .ref mW, .int zk, .ref mO, .int zd, .ref y1, .ref y2, .ref y3, .ref y4, .ref mZ])), (x1, .inl (cI, 300, .inl ec1)), (x2, .inl (cI, 300, .inl ec2)), (x3, .inl (cI, 300, .inl ec3))]) [0, 1, 2, 3] rfl
          have hD9 := hD.sub (ws' := [(oM, .inr (12, [.ref mT, .int zt, .ref mS, .ref mX, .int zp, .int zf, .ref mL, .ref mB, .ref mD, .ref m1, .ref m2, .int zh, .ref mR, .int zr, .ref x1, .ref x2, .ref x3, .int zc, .ref mH, .int zy, .int za, .int zb, .int zs, .int zq, .int zw, .int 0, .ref mY, .int zn, .ref mE, .int zm, .int zl, .ref mW, .int zk, .ref mO, .int zd, .ref y1, .ref y2, .ref y3, .ref y4, .ref mZ])), (x1, .inl (cI, 300, .inl ec1)), (x2, .inl (cI, 300, .inl ec2)), (x3, .inl (cI, 300, .inl ec3))]) [0, 1, 2, 3] (by decide) rfl
          rw [hQQ]
          exact W.zret (v := 0) (ty := .boolean) hx hb hr (rfl) (fun t ht hW => ⟨⟨0, 0, rfl, rfl, ⟨0, zc, ec1, ec2, ec3, zs, by rw [ht]; exact hP9, hD9, by omega, by omega, by decide, by show zs.toInt ≤ zs.toInt + 1 ∧ zs.toInt ≤ zs.toInt; omega, by first | exact Or.inr ⟨rfl, by unfold isLq; omega, rfl, rfl, rfl, rfl⟩ | exact Or.inl ⟨by unfold isLq; omega, by unfold isLq; omega, Or.inr ⟨rfl, Or.inl (by unfold okv; omega), rfl, rfl, rfl, rfl⟩⟩, by first | exact Or.inl ⟨by first | rfl | omega, rfl⟩ | exact Or.inr ⟨by first | decide | omega, by omega⟩⟩⟩, hS.F ht⟩) hS.2.2 dX12_cost_31

/-! what neighbours cost, on both sides -/
def srt (x : Int32) : Int := if 97 ≤ x.toInt ∧ x.toInt ≤ 122 then 1 else if 65 ≤ x.toInt ∧ x.toInt ≤ 90 then 2 else if 48 ≤ x.toInt ∧ x.toInt ≤ 57 then 3 else if x.toInt = 32 then 4 else if 33 ≤ x.toInt ∧ x.toInt ≤ 126 then 5 else if 192 ≤ x.toInt ∧ x.toInt ≤ 591 ∧ ¬ x.toInt = 215 ∧ ¬ x.toInt = 247 then 6 else if 880 ≤ x.toInt ∧ x.toInt ≤ 1327 then 7 else 0
def sC (x y : Int32) : Int := (if srt x = srt y then 4 else 9) + (if srt x = 0 then 30 else 0) + (if srt y = 0 then 30 else 0)
def cF (t x y : Int32) : Int := if t = -1 then sC x y else t.toInt
theorem sC_r (x y : Int32) : 0 ≤ sC x y ∧ sC x y ≤ 69 := by
  unfold sC
  split <;> split <;> split <;> omega
theorem told_1 {K V : Nat → Int32} {w v v' : Int32} (hT : HT 1024 1023 hsK K V) (h : toldK 1024 K V w v) (h' : toldK 1024 K V w v') : v = v' := by
  obtain ⟨s, s1, s2, s3, s4⟩ := h
  obtain ⟨t, t1, t2, t3, t4⟩ := h'
  have e := pl_one hT s1 t1 (by rw [s3]; exact s4) (by rw [t3]; exact t4) s2 t2
  rw [← s3, ← t3, e]
noncomputable def tcC (K V : Nat → Int32) (x y : Int32) : Int32 := @dite Int32 (∃ v : Int32, toldK 1024 K V (pk2 x y) v) (Classical.propDecidable _) (fun h => Classical.choose h) (fun _ => -1)
theorem tcC_of {K V : Nat → Int32} {x y v : Int32} (hT : HT 1024 1023 hsK K V) (h : toldK 1024 K V (pk2 x y) v) : tcC K V x y = v := by
  have e : ∃ v : Int32, toldK 1024 K V (pk2 x y) v := ⟨v, h⟩
  unfold tcC
  rw [dif_pos e]
  exact told_1 hT (Classical.choose_spec e) h
theorem tcC_no {K V : Nat → Int32} {x y : Int32} (h : ∀ v, ¬ toldK 1024 K V (pk2 x y) v) : tcC K V x y = -1 := by
  unfold tcC
  exact dif_neg (fun e => e.elim (fun v hv => h v hv))
theorem occ_z {V : Nat → Int32} : ∀ n, occ V n = 0 → ∀ j, j < n → V j = -1
  | 0, _, _, h => absurd h (Nat.not_lt_zero _)
  | n + 1, h, j, hj => by
    rw [occ] at h
    by_cases e : V n = -1
    · by_cases z : j = n
      · rw [z]; exact e
      · exact occ_z n (by omega) j (by omega)
    · rw [if_neg e] at h
      omega
theorem tc_empty {K V : Nat → Int32} {x y l : Int32} (ho : (occ V 1024 : Int) ≤ l.toInt) (hl : l.toInt = 0) : tcC K V x y = -1 := by
  refine tcC_no (fun v hv => ?_)
  obtain ⟨s, s1, s2, s3, s4⟩ := hv
  exact s4 (by rw [← s3]; exact occ_z 1024 (by omega) s (by omega))
theorem tc_free {K V : Nat → Int32} {x y r : Int32} (hT : HT 1024 1023 hsK K V) (h : F_pl 1024 1023 (hsK (pk2 x y)) (pk2 x y) r K V) (hf : V r.toNatClampNeg = -1) : tcC K V x y = -1 := tcC_no (fun _ => pl_free hT h hf)
theorem tc_told {K V : Nat → Int32} {x y r v : Int32} (hT : HT 1024 1023 hsK K V) (h : F_pl 1024 1023 (hsK (pk2 x y)) (pk2 x y) r K V) (h0 : 0 ≤ r.toInt) (h1 : r.toInt < 1024) (ev : v = V r.toNatClampNeg) (hv : ¬ v = -1) : tcC K V x y = v := by
  have c := v_clamp h0
  exact tcC_of hT ⟨r.toNatClampNeg, by omega, pl_own h (by rw [← ev]; exact hv), ev.symm, hv⟩
/-- the first place of the list that tells the two -/
def fstP (n : Int) (X Y Z : Nat → Int32) (x y v : Int32) : Prop := ∃ j : Nat, (j : Int) < n ∧ X j = x ∧ Y j = y ∧ Z j = v ∧ noP j x y X Y
noncomputable def tcR (n : Int) (X Y Z : Nat → Int32) (x y : Int32) : Int32 := @dite Int32 (∃ v : Int32, fstP n X Y Z x y v) (Classical.propDecidable _) (fun h => Classical.choose h) (fun _ => -1)
theorem fstP_u {n : Int} {X Y Z : Nat → Int32} {x y v v' : Int32} (h : fstP n X Y Z x y v) (h' : fstP n X Y Z x y v') : v = v' := by
  obtain ⟨i, i1, i2, i3, i4, i5⟩ := h
  obtain ⟨j, j1, j2, j3, j4, j5⟩ := h'
  rcases Nat.lt_trichotomy i j with z | z | z
  · exact absurd ⟨i2, i3⟩ (j5 i (by omega))
  · rw [← i4, ← j4, z]
  · exact absurd ⟨j2, j3⟩ (i5 j (by omega))
theorem tcR_of {n : Int} {X Y Z : Nat → Int32} {x y v : Int32} (h : fstP n X Y Z x y v) : tcR n X Y Z x y = v := by
  have e : ∃ v : Int32, fstP n X Y Z x y v := ⟨v, h⟩
  unfold tcR
  rw [dif_pos e]
  exact fstP_u (Classical.choose_spec e) h
theorem tcR_no {n : Int} {X Y Z : Nat → Int32} {x y : Int32} (h : noP n x y X Y) : tcR n X Y Z x y = -1 := by
  unfold tcR
  exact dif_neg (fun e => e.elim (fun v hv => by obtain ⟨j, j1, j2, j3, _⟩ := hv; exact h j j1 ⟨j2, j3⟩))
/-- what a whole text costs -/
def pv (f : Nat → Int32) : Nat → Int32
  | 0 => 32
  | i + 1 => f i
def cs (T : Int32 → Int32 → Int32) (f : Nat → Int32) : Nat → Int
  | 0 => 0
  | i + 1 => cs T f i + cF (T (pv f i) (f i)) (pv f i) (f i)
def cT (T : Int32 → Int32 → Int32) (n : Int) (f : Nat → Int32) : Int := cs T f n.toNat + cF (T (pv f n.toNat) 32) (pv f n.toNat) 32
theorem pv_r {f : Nat → Int32} {n : Nat} (h : prg n 0 65535 f) : ∀ i, i ≤ n → 0 ≤ (pv f i).toInt ∧ (pv f i).toInt ≤ 65535
  | 0, _ => ⟨by show (0 : Int) ≤ (32 : Int32).toInt; decide, by show (32 : Int32).toInt ≤ 65535; decide⟩
  | i + 1, hi => h i (by omega)
theorem cs_congr {T T' : Int32 → Int32 → Int32} {f g : Nat → Int32} {n : Nat} (hT : ∀ x y : Int32, 0 ≤ x.toInt → x.toInt ≤ 65535 → 0 ≤ y.toInt → y.toInt ≤ 65535 → T x y = T' x y) (hf : prg n 0 65535 f) (hg : ∀ j, j < n → f j = g j) : ∀ i, i ≤ n → cs T f i = cs T' g i ∧ pv f i = pv g i
  | 0, _ => ⟨rfl, rfl⟩
  | i + 1, hi => by
    obtain ⟨a1, a2⟩ := cs_congr hT hf hg i (by omega)
    have r1 := pv_r hf i (by omega)
    have r2 := hf i (by omega)
    have e := hg i (by omega)
    refine ⟨?_, e⟩
    rw [cs, cs, a1, ← a2, ← e, hT _ _ r1.1 r1.2 r2.1 r2.2]
theorem cT_congr {T T' : Int32 → Int32 → Int32} {f g : Nat → Int32} {n n' : Int} (en : n = n') (h0 : 0 ≤ n) (hT : ∀ x y : Int32, 0 ≤ x.toInt → x.toInt ≤ 65535 → 0 ≤ y.toInt → y.toInt ≤ 65535 → T x y = T' x y) (hf : prg n 0 65535 f) (hg : ∀ j : Nat, (j : Int) < n → f j = g j) : cT T n f = cT T' n' g := by
  subst en
  have hf2 : prg n.toNat 0 65535 f := fun j hj => hf j (by omega)
  obtain ⟨a1, a2⟩ := cs_congr (n := n.toNat) hT hf2 (fun j hj => hg j (by omega)) n.toNat (Nat.le_refl _)
  have r1 := pv_r hf2 n.toNat (Nat.le_refl _)
  unfold cT
  rw [a1, ← a2, hT _ 32 r1.1 r1.2 (by decide) (by decide)]
theorem cs_s {T : Int32 → Int32 → Int32} {f : Nat → Int32} {i i' su su' be x r : Int32} (h : su.toInt = cs T f i.toNatClampNeg) (hb : be = pv f i.toNatClampNeg) (hx : x = f i.toNatClampNeg) (hr : r.toInt = cF (T be x) be x) (hs : su'.toInt = su.toInt + r.toInt) (h0 : 0 ≤ i.toInt) (hi' : i'.toInt = i.toInt + 1) : su'.toInt = cs T f i'.toNatClampNeg ∧ x = pv f i'.toNatClampNeg := by
  have c := v_clamp h0
  have e : i'.toNatClampNeg = i.toNatClampNeg + 1 := ix_eq (by omega)
  rw [e, cs, pv, ← hb, ← hx, ← h, ← hr]
  exact ⟨hs, rfl⟩
theorem cT_of {T : Int32 → Int32 → Int32} {f : Nat → Int32} {i su be r s : Int32} {n : Int} (h : su.toInt = cs T f i.toNatClampNeg) (hb : be = pv f i.toNatClampNeg) (hr : r.toInt = cF (T be 32) be 32) (hs : s.toInt = su.toInt + r.toInt) (h0 : 0 ≤ i.toInt) (hi : i.toInt = n) : s.toInt = cT T n f := by
  have c := v_clamp h0
  have e : n.toNat = i.toNatClampNeg := by omega
  unfold cT
  rw [e, ← hb, ← h, ← hr]; exact hs
/-! what cost() does to told values, on both sides -/
theorem tk_other {l l' r v w w' v' : Int32} {K K' V V' : Nat → Int32} (hT : HT 1024 1023 hsK K V) (h : F_tk l l' r v w K K' V V') (hne : ¬ (r = 1 ∧ w' = w)) : toldK 1024 K' V' w' v' ↔ toldK 1024 K V w' v' := by
  rcases h with ⟨e, hv, ⟨t1, t2, t3, s, s1, s2, s3, s4⟩ | ⟨t1, t2, t3, q, q0, q1, q2, q3, q4, q5⟩⟩ | ⟨e, -, t1, t2, t3⟩
  · rw [t3, s2]
    constructor
    · rintro ⟨t, a1, a2, a3, a4⟩
      by_cases z : t = s
      · exact absurd ⟨e, by rw [← a2, z, s4]⟩ hne
      · rw [pk_un z] at a3
        exact ⟨t, a1, a2, a3, a4⟩
    · rintro ⟨t, a1, a2, a3, a4⟩
      by_cases z : t = s
      · exact absurd ⟨e, by rw [← a2, z, s4]⟩ hne
      · exact ⟨t, a1, a2, by rw [pk_un z]; exact a3, a4⟩
  · rw [q4, q5]
    constructor
    · rintro ⟨t, a1, a2, a3, a4⟩
      by_cases z : t = q.toNatClampNeg
      · rw [z, pk_us] at a2
        exact absurd ⟨e, a2.symm⟩ hne
      · rw [pk_un z] at a2 a3
        exact ⟨t, a1, a2, a3, a4⟩
    · rintro ⟨t, a1, a2, a3, a4⟩
      by_cases z : t = q.toNatClampNeg
      · rw [z, q3] at a3
        exact absurd a3.symm a4
      · exact ⟨t, a1, by rw [pk_un z]; exact a2, by rw [pk_un z]; exact a3, a4⟩
  · rw [t2, t3]
theorem tk_own {l l' r v w : Int32} {K K' V V' : Nat → Int32} (h : F_tk l l' r v w K K' V V') (h1 : r = 1) : toldK 1024 K' V' w v := by
  rcases h with ⟨e, hv, ⟨t1, t2, t3, s, s1, s2, s3, s4⟩ | ⟨t1, t2, t3, q, q0, q1, q2, q3, q4, q5⟩⟩ | ⟨e, -, t1, t2, t3⟩
  · exact ⟨s, s3, by rw [t3]; exact s4, by rw [s2, pk_us], okv_ne hv⟩
  · have c := v_clamp q0
    exact ⟨q.toNatClampNeg, by omega, by rw [q4, pk_us], by rw [q5, pk_us], okv_ne hv⟩
  · rw [h1] at e; exact absurd e (by decide)
theorem tcC_eq {K K' V V' : Nat → Int32} {x y : Int32} (hT : HT 1024 1023 hsK K V) (hT' : HT 1024 1023 hsK K' V') (h : ∀ v, toldK 1024 K' V' (pk2 x y) v ↔ toldK 1024 K V (pk2 x y) v) : tcC K' V' x y = tcC K V x y := by
  by_cases e : ∃ v : Int32, toldK 1024 K V (pk2 x y) v
  · obtain ⟨v, hv⟩ := e
    rw [tcC_of hT hv, tcC_of hT' ((h v).mpr hv)]
  · rw [tcC_no (fun v hv => e ⟨v, hv⟩), tcC_no (fun v hv => e ⟨v, (h v).mp hv⟩)]
theorem fst_other {z z' r x y v x' y' v' : Int32} {X X' Y Y' Z Z' : Nat → Int32} (hz : 0 ≤ z.toInt) (h : F_ck z z' r x y v X X' Y Y' Z Z') (hne : ¬ (r = 1 ∧ x' = x ∧ y' = y)) : fstP z'.toInt X' Y' Z' x' y' v' ↔ fstP z.toInt X Y Z x' y' v' := by
  have c := v_clamp hz
  rcases h with ⟨-, -, ⟨e, -, ⟨t1, t2, k, k1, k2, k3, k4, k5, k6, k7⟩ | ⟨t1, t2, t3, t4, t5, t6⟩⟩ | ⟨e, -, t1, t2, t3, t4⟩⟩ | ⟨e, -, t1, t2, t3, t4⟩
  · rw [upd_id k1] at k3
    rw [upd_id k2] at k4
    rw [k3, k4, k5, t2]
    constructor
    · rintro ⟨j, a1, a2, a3, a4, a5⟩
      by_cases w : j = k
      · exact absurd ⟨e, by rw [← a2, w, k1], by rw [← a3, w, k2]⟩ hne
      · rw [pk_un w] at a4
        exact ⟨j, a1, a2, a3, a4, a5⟩
    · rintro ⟨j, a1, a2, a3, a4, a5⟩
      by_cases w : j = k
      · exact absurd ⟨e, by rw [← a2, w, k1], by rw [← a3, w, k2]⟩ hne
      · exact ⟨j, a1, a2, a3, by rw [pk_un w]; exact a4, a5⟩
  · have lo : ∀ j : Nat, (j : Int) < z.toInt → X' j = X j ∧ Y' j = Y j ∧ Z' j = Z j := fun j hj => by
      rw [t4, t5, t6, pk_un (by omega), pk_un (by omega), pk_un (by omega)]; exact ⟨rfl, rfl, rfl⟩
    constructor
    · rintro ⟨j, a1, a2, a3, a4, a5⟩
      by_cases w : j = z.toNatClampNeg
      · rw [t4, w, pk_us] at a2
        rw [t5, w, pk_us] at a3
        exact absurd ⟨e, a2.symm, a3.symm⟩ hne
      · obtain ⟨l1, l2, l3⟩ := lo j (by omega)
        rw [l1] at a2
        rw [l2] at a3
        rw [l3] at a4
        refine ⟨j, by omega, a2, a3, a4, fun i hi => ?_⟩
        obtain ⟨m1, m2, m3⟩ := lo i (by omega)
        have q := a5 i hi
        rw [m1, m2] at q
        exact q
    · rintro ⟨j, a1, a2, a3, a4, a5⟩
      obtain ⟨l1, l2, l3⟩ := lo j (by omega)
      refine ⟨j, by omega, by rw [l1]; exact a2, by rw [l2]; exact a3, by rw [l3]; exact a4, fun i hi => ?_⟩
      obtain ⟨m1, m2, m3⟩ := lo i (by omega)
      rw [m1, m2]
      exact a5 i hi
  · rw [t1, t2, t3, t4]
  · rw [t1, t2, t3, t4]
theorem fst_own {z z' r x y v : Int32} {X X' Y Y' Z Z' : Nat → Int32} (hz : 0 ≤ z.toInt) (h : F_ck z z' r x y v X X' Y Y' Z Z') (h1 : r = 1) : fstP z'.toInt X' Y' Z' x y v := by
  have c := v_clamp hz
  have no : ∀ {q : Int32}, q = 0 → q = 1 → False := fun e1 e2 => by rw [e1] at e2; exact absurd e2 (by decide)
  rcases h with ⟨-, -, ⟨e, -, ⟨t1, t2, k, k1, k2, k3, k4, k5, k6, k7⟩ | ⟨t1, t2, t3, t4, t5, t6⟩⟩ | ⟨e, -, t1, t2, t3, t4⟩⟩ | ⟨e, -, t1, t2, t3, t4⟩
  · rw [upd_id k1] at k3
    rw [upd_id k2] at k4
    rw [k3, k4, k5, t2]
    exact ⟨k, k6, k1, k2, by rw [pk_us], k7⟩
  · refine ⟨z.toNatClampNeg, by omega, by rw [t4, pk_us], by rw [t5, pk_us], by rw [t6, pk_us], fun i hi => ?_⟩
    rw [t4, t5, pk_un (by omega), pk_un (by omega)]
    exact t1 i (by omega)
  · exact (no e h1).elim
  · exact (no e h1).elim
theorem tcR_eq {n n' : Int} {X X' Y Y' Z Z' : Nat → Int32} {x y : Int32} (h : ∀ v, fstP n' X' Y' Z' x y v ↔ fstP n X Y Z x y v) : tcR n' X' Y' Z' x y = tcR n X Y Z x y := by
  by_cases e : ∃ v : Int32, fstP n X Y Z x y v
  · obtain ⟨v, hv⟩ := e
    rw [tcR_of hv, tcR_of ((h v).mpr hv)]
  · unfold tcR
    rw [dif_neg e, dif_neg (fun e2 => e2.elim (fun v hv => e ⟨v, (h v).mp hv⟩))]
/-- both sides tell the same values -/
def CVR (zc : Int) (K V X Y Z : Nat → Int32) : Prop := ∀ x y : Int32, 0 ≤ x.toInt → x.toInt ≤ 65535 → 0 ≤ y.toInt → y.toInt ≤ 65535 → tcC K V x y = tcR zc X Y Z x y
theorem cval_inv {l l' r z z' q x y v : Int32} {K K' V V' X X' Y Y' Z Z' : Nat → Int32} (hz : 0 ≤ z.toInt) (hl : l.toInt = z.toInt) (hT : HT 1024 1023 hsK K V) (ho : (occ V 1024 : Int) ≤ l.toInt) (hA : alK z.toInt K V X Y) (hC : CVR z.toInt K V X Y Z) (h1 : F_cst l l' r x y v K K' V V') (h2 : F_ck z z' q x y v X X' Y Y' Z Z') : CVR z'.toInt K' V' X' Y' Z' := by
  have hr := (cost_r hl hA h1 h2).1
  have hT' := (cost_inv hz hl hT ho hA h1 h2).1
  intro x' y' x0 x1 y0 y1
  rcases h1 with ⟨a1, a2, a3⟩ | ⟨a3, a4, a5, a6, a7⟩
  · by_cases w : r = 1 ∧ x' = x ∧ y' = y
    · obtain ⟨w1, w2, w3⟩ := w
      rw [w2, w3, tcC_of hT' (tk_own a3 w1), tcR_of (fst_own hz h2 (hr ▸ w1))]
    · have n1 : ¬ (r = 1 ∧ pk2 x' y' = pk2 x y) := fun e => by
        obtain ⟨e1, e2⟩ := pk2_inj ⟨x0, x1⟩ ⟨y0, y1⟩ (isLq_r a1) (isLq_r a2) e.2
        exact w ⟨e.1, e1, e2⟩
      rw [tcC_eq hT hT' (fun u => tk_other hT a3 n1), tcR_eq (fun u => fst_other hz h2 (hr ▸ w))]
      exact hC x' y' x0 x1 y0 y1
  · have n2 : ¬ (q = 1 ∧ x' = x ∧ y' = y) := fun e => by
      have e1 := e.1
      rw [← hr, a3] at e1
      exact absurd e1 (by decide)
    rw [a6, a7, tcR_eq (fun u => fst_other hz h2 n2)]
    exact hC x' y' x0 x1 y0 y1
theorem okv_b {v : Int32} (h : okv v) : -1 ≤ v.toInt ∧ v.toInt ≤ 200 := ⟨by have := h.1; omega, h.2⟩
theorem cst_V {l l' r x y v : Int32} {K K' V V' : Nat → Int32} (h : F_cst l l' r x y v K K' V V') (hV : prg 1024 (-1) 200 V) : prg 1024 (-1) 200 V' := by
  have st : ∀ {s : Nat} {u : Int32}, okv u → prg 1024 (-1) 200 (upd V s u) := fun {s u} hu j hj => by
    by_cases z : j = s
    · rw [z, pk_us]; exact okv_b hu
    · rw [pk_un z]; exact hV j hj
  rcases h with ⟨-, -, ⟨e, hv, ⟨t1, t2, t3, s, s1, s2, s3, s4⟩ | ⟨t1, t2, t3, q, q0, q1, q2, q3, q4, q5⟩⟩ | ⟨e, -, t1, t2, t3⟩⟩ | ⟨-, -, -, -, t3⟩
  · rw [s2]; exact st hv
  · rw [q5]; exact st hv
  · rw [t3]; exact hV
  · rw [t3]; exact hV
theorem ck_V {z z' r x y v : Int32} {X X' Y Y' Z Z' : Nat → Int32} (h : F_ck z z' r x y v X X' Y Y' Z Z') (hV : rg 0 200 Z) : rg 0 200 Z' := by
  have st : ∀ {s : Nat} {u : Int32}, okv u → rg 0 200 (upd Z s u) := fun {s u} hu j => by
    by_cases w : j = s
    · rw [w, pk_us]; exact hu
    · rw [pk_un w]; exact hV j
  rcases h with ⟨-, -, ⟨e, hv, ⟨t1, t2, k, k1, k2, k3, k4, k5, k6, k7⟩ | ⟨t1, t2, t3, t4, t5, t6⟩⟩ | ⟨e, -, t1, t2, t3, t4⟩⟩ | ⟨e, -, t1, t2, t3, t4⟩
  · rw [k5]; exact st hv
  · rw [t6]; exact st hv
  · rw [t4]; exact hV
  · rw [t4]; exact hV
