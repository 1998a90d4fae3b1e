set_option maxHeartbeats 40000000 in
set_option maxRecDepth 100000 in
theorem f_X0_remember (l : Launch) (dC : Nat → ClassId) (dI : Nat → Nat → Nat) (cI cS : ClassId) (sz : Nat) (oG : Nat) (nx : Nat) (g1 : Nat) (g2 : Nat) (ax : Nat) (gn : Int32) (lG : Int32) (fG1 : Nat → Int32) (fG2 : Nat → Int32) (lx : Int32) (fx : Nat → Int32) (g_gn : 0 ≤ gn.toInt ∧ gn.toInt ≤ 19) (g_lG : 0 ≤ lG.toInt ∧ lG.toInt ≤ 20) (g_fG2 : rg 0 300 fG2) (g_lx : 0 ≤ lx.toInt ∧ lx.toInt ≤ 300) : Met l yX0_remember wsX0_remember ({ frames := 1, cells := 0, slots := 0, locals := 21 } : Room) (va_Pc [.ref oG, .ref nx] (fun U => U.heap.size = sz ∧ va_P (dC, dI) vwCl [(oG, .inr (0, [.ref g1, .ref g2, .int gn, .int lG])), (g1, .inl (cI, 6000, .inl fG1)), (g2, .inl (cI, 20, .inl fG2)), (nx, .inr (5, [.ref ax, .int lx])), (ax, .inl (cI, 300, .inl fx))] U.heap ∧ va_K (dC, dI) vwCl [(cI, .int), (cS, .short)] U ∧ va_D (fun _ => True) [(oG, .inr (0, [.ref g1, .ref g2, .int gn, .int lG])), (g1, .inl (cI, 6000, .inl fG1)), (g2, .inl (cI, 20, .inl fG2)), (nx, .inr (5, [.ref ax, .int lx])), (ax, .inl (cI, 300, .inl fx))])) (va_Qv (fun (_ : Unit) => True) (fun _ t => ∃ (gn' : Int32) (lG' : Int32) (fG1' : Nat → Int32) (fG2' : Nat → Int32), va_P (dC, dI) vwCl [(oG, .inr (0, [.ref g1, .ref g2, .int gn', .int lG'])), (g1, .inl (cI, 6000, .inl fG1')), (g2, .inl (cI, 20, .inl fG2')), (nx, .inr (5, [.ref ax, .int lx])), (ax, .inl (cI, 300, .inl fx))] t.heap ∧ va_D (va_A [(oG, .inr (0, [.ref g1, .ref g2, .int gn, .int lG])), (g1, .inl (cI, 6000, .inl fG1)), (g2, .inl (cI, 20, .inl fG2)), (nx, .inr (5, [.ref ax, .int lx])), (ax, .inl (cI, 300, .inl fx))] sz) [(oG, .inr (0, [.ref g1, .ref g2, .int gn', .int lG'])), (g1, .inl (cI, 6000, .inl fG1')), (g2, .inl (cI, 20, .inl fG2')), (nx, .inr (5, [.ref ax, .int lx])), (ax, .inl (cI, 300, .inl fx))] ∧ (0 ≤ gn'.toInt ∧ gn'.toInt ≤ 19) ∧ (0 ≤ lG'.toInt ∧ lG'.toInt ≤ 20) ∧ (rg 0 300 fG2') ∧ (F_rm gn gn' lG lG' lx fG1 fG1' fG2 fG2' fx)) (va_A [(oG, .inr (0, [.ref g1, .ref g2, .int gn, .int lG])), (g1, .inl (cI, 6000, .inl fG1)), (g2, .inl (cI, 20, .inl fG2)), (nx, .inr (5, [.ref ax, .int lx])), (ax, .inl (cI, 300, .inl fx))] sz)) 0 0 (va_A [(oG, .inr (0, [.ref g1, .ref g2, .int gn, .int lG])), (g1, .inl (cI, 6000, .inl fG1)), (g2, .inl (cI, 20, .inl fG2)), (nx, .inr (5, [.ref ax, .int lx])), (ax, .inl (cI, 300, .inl fx))] sz) := by
  refine Met.ofW (cc := cX0_remember) (maxL := 4) (ret := none) (by decide) rfl ?_
  intro p e s m args below meth c s₁ B hml hv
  obtain ⟨rfl, hsz, hP, hK, hD0⟩ := hv
  have hx := B.exec
  have hb := B.bytes
  have hr := B.returns
  have hts := atoms_spec (ws := wsX0_remember) B.pre
  have hown : s.vm.findClass RX0 = some m.cls := findClass_of_methodNamed B.named
  have hlocks := B.notSynchronized
  have in_X0 : ∀ w ∈ wsX00, w ∈ wsX0_remember := fun _ h => List.mem_cons_of_mem _ (List.mem_append_left _ (List.mem_append_right _ (h)))
  subst hsz
  have hD := hD0.self (sz := s.heap.size)
  generalize hAe : va_A [(oG, .inr (0, [.ref g1, .ref g2, .int gn, .int lG])), (g1, .inl (cI, 6000, .inl fG1)), (g2, .inl (cI, 20, .inl fG2)), (nx, .inr (5, [.ref ax, .int lx])), (ax, .inl (cI, 300, .inl fx))] s.heap.size = A at hD ⊢
  have hA : ∀ q : Nat, s.heap.size ≤ q → A q := fun q h => by rw [← hAe]; exact Or.inr h
  have hS : va_S A s.heap s.heap [] := va_S.rf
  have hP : va_P (dC, dI) vwCl [(oG, .inr (0, [.ref g1, .ref g2, .int gn, .int lG])), (g1, .inl (cI, 6000, .inl fG1)), (g2, .inl (cI, 20, .inl fG2)), (nx, .inr (5, [.ref ax, .int lx])), (ax, .inl (cI, 300, .inl fx))] s.heap := hP
  have hl := lv_entry ([.ref oG, .ref nx]) (n := 4) (Nat.le_of_ble_eq_true rfl)
  rw [lg_entry_eq]
  generalize (lg_sl ([.ref oG, .ref nx]) ++ List.replicate (4 - (lg_sl ([.ref oG, .ref nx])).length) Slot.unset).toArray = ls at hl ⊢
  have hl : lv_has ls 4 [(0, .ref oG), (1, .ref nx)] := hl
  obtain ⟨QQ, hQQ⟩ : ∃ QQ : Array Value → State → Outcome → State → Prop, QQ = va_Qv (fun (_ : Unit) => True) (fun _ t => ∃ (gn' : Int32) (lG' : Int32) (fG1' : Nat → Int32) (fG2' : Nat → Int32), va_P (dC, dI) vwCl [(oG, .inr (0, [.ref g1, .ref g2, .int gn', .int lG'])), (g1, .inl (cI, 6000, .inl fG1')), (g2, .inl (cI, 20, .inl fG2')), (nx, .inr (5, [.ref ax, .int lx])), (ax, .inl (cI, 300, .inl fx))] t.heap ∧ va_D A [(oG, .inr (0, [.ref g1, .ref g2, .int gn', .int lG'])), (g1, .inl (cI, 6000, .inl fG1')), (g2, .inl (cI, 20, .inl fG2')), (nx, .inr (5, [.ref ax, .int lx])), (ax, .inl (cI, 300, .inl fx))] ∧ (0 ≤ gn'.toInt ∧ gn'.toInt ≤ 19) ∧ (0 ≤ lG'.toInt ∧ lG'.toInt ≤ 20) ∧ (rg 0 300 fG2') ∧ (F_rm gn gn' lG lG' lx fG1 fG1' fG2 fG2' fx)) A := ⟨_, rfl⟩
  rw [← hQQ]
  refine lv_aload_n hx hb dX0_remember_0 rfl (lv_at hl 1 rfl) ?_
  have hPc := hP.sub (ws' := [(nx, .inr (5, [.ref ax, .int lx]))]) [3] rfl
  have hDc := hD.sub (ws' := [(nx, .inr (5, [.ref ax, .int lx]))]) [3] (by decide) rfl
  have hFc := va_free (wc := [(nx, .inr (5, [.ref ax, .int lx]))]) hD hS hA [3] rfl
  refine va_calli (va_runV (As := []) (rest := []) ⟨hx, hb, hml, hown, hts⟩ (m_X5_length l dC dI cI cS s.heap.size nx ax lx ) (cwV 0 hts gX0_remember_X5_length rfl rfl rfl (by decide +kernel) ⟨Nat.le_of_ble_eq_true rfl, Nat.le_of_ble_eq_true rfl⟩) ⟨fun a U g mk q => by obtain ⟨q0, q1, qP, qK, qD⟩ := q; exact ⟨q0, q1, qP, va_K.moved (u := U) (U := U.calling g mk a) (Vm.Alike.refl U.vm) qK, qD⟩, va_recv hK hPc (ci := 5) (q0 := 0) rfl rfl, fun U hU hW => ⟨rfl, by rw [hU], by rw [hU]; exact hPc, va_K.moved hW.alike hK, hDc.weaken (fun _ _ _ _ => trivial)⟩⟩ rfl rfl hl.1 rfl (lv_room (Nat.le_of_ble_eq_true rfl)) dX0_remember_1 ⟨Nat.le_of_ble_eq_true rfl, Nat.le_of_ble_eq_true rfl⟩) hS (fun q _ h => hFc q h) hFc (fun r_1 u t H1 locs ht hvm hw hB hz1 hk1 hS => ?_)
  subst hw
  obtain ⟨hP1, hD1, hf1_0⟩ := hB
  rw [ht] at hP1
  obtain ⟨hP, hD⟩ := va_join (wr := [(oG, .inr (0, [.ref g1, .ref g2, .int gn, .int lG])), (g1, .inl (cI, 6000, .inl fG1)), (g2, .inl (cI, 20, .inl fG2)), (ax, .inl (cI, 300, .inl fx))]) (w1 := [(nx, .inr (5, [.ref ax, .int lx]))]) hP hD [3] [0, 1, 2, 4] rfl rfl (by decide) (by decide) hk1 hFc hP1 hD1
  generalize H1 = H at hP hS ⊢
  have hP : va_P (dC, dI) vwCl [(oG, .inr (0, [.ref g1, .ref g2, .int gn, .int lG])), (g1, .inl (cI, 6000, .inl fG1)), (g2, .inl (cI, 20, .inl fG2)), (ax, .inl (cI, 300, .inl fx)), (nx, .inr (5, [.ref ax, .int lx]))] H := hP
  have hD : va_D A [(oG, .inr (0, [.ref g1, .ref g2, .int gn, .int lG])), (g1, .inl (cI, 6000, .inl fG1)), (g2, .inl (cI, 20, .inl fG2)), (ax, .inl (cI, 300, .inl fx)), (nx, .inr (5, [.ref ax, .int lx]))] := hD
  rw [hf1_0]
  refine lv_sipush (v := 300) hx hb dX0_remember_4 (by decide) ?_
  refine va_mmin hx hb (by rw [hml]; exact hl.1.symm) hown (hts (.methodLink RX0 30 Lib.Math.min.name) (List.mem_of_getElem? (i := 1) rfl)) (hts (.static Lib.Math.min.name) (List.mem_of_getElem? (i := 2) rfl)) (hts (.initialized "java/lang/Math") (List.mem_of_getElem? (i := 3) rfl)) (hts (.code Lib.Math.min.name Lib.Math.min.code 2 (some .int)) (List.mem_of_getElem? (i := 4) rfl)) (Nat.le_of_ble_eq_true rfl) (Nat.le_of_ble_eq_true rfl) (Nat.zero_le _) (Nat.zero_le _) dX0_remember_7 ?_
  refine lv_topi (fun x_2 ex_2 => ?_)
  have tx_2 : x_2.toInt ≤ lx.toInt ∧ x_2.toInt ≤ 300 ∧ (x_2.toInt = lx.toInt ∨ x_2.toInt = 300) := v_min ex_2
  refine lv_istore_n (lv' := [(2, .int x_2), (0, .ref oG), (1, .ref nx)]) hx hb dX0_remember_10 rfl hl (by decide) rfl (fun ls hl => ?_)
  refine lv_iconst (v := 0) hx hb dX0_remember_11 (by decide) ?_
  refine lv_istore_n (lv' := [(3, .int 0), (2, .int x_2), (0, .ref oG), (1, .ref nx)]) hx hb dX0_remember_12 rfl hl (by decide) rfl (fun ls hl => ?_)
  have LOOP_13 : ∀ (k_13 : Nat) (i : Int32) (f2 : Nat → Int32) (H : Heap) (locs : List Loc) (ls : Array Slot), (300 - i.toInt : Int).toNat < k_13 → (0 ≤ i.toInt ∧ i.toInt ≤ 300) → (i.toInt ≤ lx.toInt) → (CPB (300 * gn.toInt) i.toInt fG1 f2 fx) → va_P (dC, dI) vwCl [(oG, .inr (0, [.ref g1, .ref g2, .int gn, .int lG])), (g1, .inl (cI, 6000, .inl f2)), (g2, .inl (cI, 20, .inl fG2)), (ax, .inl (cI, 300, .inl fx)), (nx, .inr (5, [.ref ax, .int lx]))] H → va_D A [(oG, .inr (0, [.ref g1, .ref g2, .int gn, .int lG])), (g1, .inl (cI, 6000, .inl f2)), (g2, .inl (cI, 20, .inl fG2)), (ax, .inl (cI, 300, .inl fx)), (nx, .inr (5, [.ref ax, .int lx]))] → va_S A s.heap H locs → lv_has ls 4 [(3, .int i), (2, .int x_2), (0, .ref oG), (1, .ref nx)] → W p l e (headSpec wsX0_remember ({ frames := 1, cells := 0, slots := 0, locals := 21 } : Room)).room s m ([.ref oG, .ref nx] : List Value).toArray below meth c H locs 0 0 (MQ below QQ ([.ref oG, .ref nx] : List Value).toArray s 0 0 A) (F0 m 13 ls []) := by
    intro k_13
    induction k_13 with
    | zero =>
      intro i f2 H locs ls hm_13 g_i hin hcb hP hD hS hl
      exact absurd hm_13 (Nat.not_lt_zero _)
    | succ k_13 ih_13 =>
      intro i f2 H locs ls hm_13 g_i hin hcb hP hD hS hl
      refine lv_iload_n hx hb dX0_remember_13 rfl (lv_at hl 0 rfl) ?_
      refine lv_iload_n hx hb dX0_remember_14 rfl (lv_at hl 1 rfl) ?_
      refine lv_icmp_ge (tgt := 44) hx hb dX0_remember_15 (by decide) (fun c_3 => ?_) (fun c_3 => ?_)
      · have tc_3 : x_2.toInt ≤ i.toInt := v_le c_3
        refine lv_aload_n hx hb dX0_remember_44 rfl (lv_at hl 2 rfl) ?_
        refine va_get (D := (dC, dI)) (ci := 0) (v := .ref g2) (C := RX0) (T := TX0) (N := 4) hx hb hts in_X0 hown hK hP 0 rfl rfl 1 (by decide) (hts (.fieldLink RX0 15 "TextMender$Changes" "keptLength" "[I") (List.mem_of_getElem? (i := 7) rfl)) (fun _ h9 => h9) rfl dX0_remember_45 ?_
        refine lv_aload_n hx hb dX0_remember_48 rfl (lv_at hl 2 rfl) ?_
        refine va_get (D := (dC, dI)) (ci := 0) (v := .int gn) (C := RX0) (T := TX0) (N := 4) hx hb hts in_X0 hown hK hP 0 rfl rfl 2 (by decide) (hts (.fieldLink RX0 18 "TextMender$Changes" "next" "I") (List.mem_of_getElem? (i := 6) rfl)) (fun _ h9 => h9) rfl dX0_remember_49 ?_
        refine lv_iload_n hx hb dX0_remember_52 rfl (lv_at hl 1 rfl) ?_
        refine va_iast hx hb hK hP hD hS 2 0 rfl rfl (v_in (by omega)) dX0_remember_53 (fun H locs hP hD hS => ?_)
        have hP : va_P (dC, dI) vwCl [(oG, .inr (0, [.ref g1, .ref g2, .int gn, .int lG])), (g1, .inl (cI, 6000, .inl f2)), (g2, .inl (cI, 20, .inl (upd fG2 (gn : Int32).toNatClampNeg x_2))), (ax, .inl (cI, 300, .inl fx)), (nx, .inr (5, [.ref ax, .int lx]))] H := hP
        have hD : va_D A [(oG, .inr (0, [.ref g1, .ref g2, .int gn, .int lG])), (g1, .inl (cI, 6000, .inl f2)), (g2, .inl (cI, 20, .inl (upd fG2 (gn : Int32).toNatClampNeg x_2))), (ax, .inl (cI, 300, .inl fx)), (nx, .inr (5, [.ref ax, .int lx]))] := hD
        obtain ⟨f_4, ef_4⟩ : ∃ g : Nat → Int32, g = upd fG2 (gn : Int32).toNatClampNeg x_2 := ⟨_, rfl⟩
        rw [← ef_4] at hP hD
        have g_f4 : rg 0 300 f_4 := rg_upd ef_4 g_fG2 (by omega)
        refine lv_aload_n hx hb dX0_remember_54 rfl (lv_at hl 2 rfl) ?_
        refine lv_aload_n hx hb dX0_remember_55 rfl (lv_at hl 2 rfl) ?_
        refine va_get (D := (dC, dI)) (ci := 0) (v := .int gn) (C := RX0) (T := TX0) (N := 4) hx hb hts in_X0 hown hK hP 0 rfl rfl 2 (by decide) (hts (.fieldLink RX0 18 "TextMender$Changes" "next" "I") (List.mem_of_getElem? (i := 6) rfl)) (fun _ h9 => h9) rfl dX0_remember_56 ?_
        refine lv_bipush (v := 19) hx hb dX0_remember_59 (by decide) ?_
        refine lv_icmp_ne (tgt := 68) hx hb dX0_remember_61 (by decide) (fun c_5 => ?_) (fun c_5 => ?_)
        · have tc_5 : ¬ gn.toInt = 19 := v_ne c_5
          refine lv_aload_n hx hb dX0_remember_68 rfl (lv_at hl 2 rfl) ?_
          refine va_get (D := (dC, dI)) (ci := 0) (v := .int gn) (C := RX0) (T := TX0) (N := 4) hx hb hts in_X0 hown hK hP 0 rfl rfl 2 (by decide) (hts (.fieldLink RX0 18 "TextMender$Changes" "next" "I") (List.mem_of_getElem? (i := 6) rfl)) (fun _ h9 => h9) rfl dX0_remember_69 ?_
          refine lv_iconst (v := 1) hx hb dX0_remember_72 (by decide) ?_
          refine lv_iadd hx hb dX0_remember_73 ?_
          refine lv_topi (fun x_6 ex_6 => ?_)
          have tx_6 : x_6.toInt = gn.toInt + 1 := v_add ex_6 (by show -2147483648 ≤ gn.toInt + 1; omega) (by show gn.toInt + 1 < 2147483648; omega)
          refine va_put (D := (dC, dI)) (ci := 0) (v := .int x_6) (ty := .int) (C := RX0) (T := TX0) (N := 4) hx hb hts in_X0 tyX0 tyX0_ok nmX0 hown hK hP hD hS 0 rfl rfl 2 (by decide) (hts (.fieldLink RX0 18 "TextMender$Changes" "next" "I") (List.mem_of_getElem? (i := 6) rfl)) (fun _ h9 => h9) rfl (by decide +kernel) rfl rfl (Nat.le_of_ble_eq_true rfl) dX0_remember_74 (fun H locs hP hD hS => ?_)
          have hP : va_P (dC, dI) vwCl [(oG, .inr (0, [.ref g1, .ref g2, .int x_6, .int lG])), (g1, .inl (cI, 6000, .inl f2)), (g2, .inl (cI, 20, .inl f_4)), (ax, .inl (cI, 300, .inl fx)), (nx, .inr (5, [.ref ax, .int lx]))] H := hP
          have hD : va_D A [(oG, .inr (0, [.ref g1, .ref g2, .int x_6, .int lG])), (g1, .inl (cI, 6000, .inl f2)), (g2, .inl (cI, 20, .inl f_4)), (ax, .inl (cI, 300, .inl fx)), (nx, .inr (5, [.ref ax, .int lx]))] := hD
          refine lv_aload_n hx hb dX0_remember_77 rfl (lv_at hl 2 rfl) ?_
          refine lv_aload_n hx hb dX0_remember_78 rfl (lv_at hl 2 rfl) ?_
          refine va_get (D := (dC, dI)) (ci := 0) (v := .int lG) (C := RX0) (T := TX0) (N := 4) hx hb hts in_X0 hown hK hP 0 rfl rfl 3 (by decide) (hts (.fieldLink RX0 22 "TextMender$Changes" "length" "I") (List.mem_of_getElem? (i := 8) rfl)) (fun _ h9 => h9) rfl dX0_remember_79 ?_
          refine lv_iconst (v := 1) hx hb dX0_remember_82 (by decide) ?_
          refine lv_iadd hx hb dX0_remember_83 ?_
          refine lv_topi (fun x_7 ex_7 => ?_)
          have tx_7 : x_7.toInt = lG.toInt + 1 := v_add ex_7 (by show -2147483648 ≤ lG.toInt + 1; omega) (by show lG.toInt + 1 < 2147483648; omega)
          refine lv_bipush (v := 20) hx hb dX0_remember_84 (by decide) ?_
          refine va_mmin hx hb (by rw [hml]; exact hl.1.symm) hown (hts (.methodLink RX0 30 Lib.Math.min.name) (List.mem_of_getElem? (i := 1) rfl)) (hts (.static Lib.Math.min.name) (List.mem_of_getElem? (i := 2) rfl)) (hts (.initialized "java/lang/Math") (List.mem_of_getElem? (i := 3) rfl)) (hts (.code Lib.Math.min.name Lib.Math.min.code 2 (some .int)) (List.mem_of_getElem? (i := 4) rfl)) (Nat.le_of_ble_eq_true rfl) (Nat.le_of_ble_eq_true rfl) (Nat.zero_le _) (Nat.zero_le _) dX0_remember_86 ?_
          refine lv_topi (fun x_8 ex_8 => ?_)
          have tx_8 : x_8.toInt ≤ x_7.toInt ∧ x_8.toInt ≤ 20 ∧ (x_8.toInt = x_7.toInt ∨ x_8.toInt = 20) := v_min ex_8
          refine va_put (D := (dC, dI)) (ci := 0) (v := .int x_8) (ty := .int) (C := RX0) (T := TX0) (N := 4) hx hb hts in_X0 tyX0 tyX0_ok nmX0 hown hK hP hD hS 0 rfl rfl 3 (by decide) (hts (.fieldLink RX0 22 "TextMender$Changes" "length" "I") (List.mem_of_getElem? (i := 8) rfl)) (fun _ h9 => h9) rfl (by decide +kernel) rfl rfl (Nat.le_of_ble_eq_true rfl) dX0_remember_89 (fun H locs hP hD hS => ?_)
          have hP : va_P (dC, dI) vwCl [(oG, .inr (0, [.ref g1, .ref g2, .int x_6, .int x_8])), (g1, .inl (cI, 6000, .inl f2)), (g2, .inl (cI, 20, .inl f_4)), (ax, .inl (cI, 300, .inl fx)), (nx, .inr (5, [.ref ax, .int lx]))] H := hP
          have hD : va_D A [(oG, .inr (0, [.ref g1, .ref g2, .int x_6, .int x_8])), (g1, .inl (cI, 6000, .inl f2)), (g2, .inl (cI, 20, .inl f_4)), (ax, .inl (cI, 300, .inl fx)), (nx, .inr (5, [.ref ax, .int lx]))] := hD
          have hP9 := hP.sub (ws' := [(oG, .inr (0, [.ref g1, .ref g2, .int x_6, .int x_8])), (g1, .inl (cI, 6000, .inl f2)), (g2, .inl (cI, 20, .inl f_4)), (nx, .inr (5, [.ref ax, .int lx])), (ax, .inl (cI, 300, .inl fx))]) [0, 1, 2, 4, 3] rfl
          have hD9 := hD.sub (ws' := [(oG, .inr (0, [.ref g1, .ref g2, .int x_6, .int x_8])), (g1, .inl (cI, 6000, .inl f2)), (g2, .inl (cI, 20, .inl f_4)), (nx, .inr (5, [.ref ax, .int lx])), (ax, .inl (cI, 300, .inl fx))]) [0, 1, 2, 4, 3] (by decide) rfl
          rw [hQQ]
          exact W.vret hx hb hr (fun t ht hW => ⟨⟨(), rfl, trivial, ⟨x_6, x_8, f2, f_4, by rw [ht]; exact hP9, hD9, by omega, by omega, g_f4, ⟨CPB_n hcb (by omega), ⟨x_2, by omega, ef_4⟩, by first | omega | (show (0 : Int) = _; omega), by omega⟩⟩⟩, hS.F ht⟩) hS.2.2 dX0_remember_92
        · have tc_5 : gn.toInt = 19 := v_eq c_5
          refine lv_iconst (v := 0) hx hb dX0_remember_64 (by decide) ?_
          refine lv_goto (tgt := 74) hx hb dX0_remember_65 (by decide) ?_
          refine va_put (D := (dC, dI)) (ci := 0) (v := .int 0) (ty := .int) (C := RX0) (T := TX0) (N := 4) hx hb hts in_X0 tyX0 tyX0_ok nmX0 hown hK hP hD hS 0 rfl rfl 2 (by decide) (hts (.fieldLink RX0 18 "TextMender$Changes" "next" "I") (List.mem_of_getElem? (i := 6) rfl)) (fun _ h9 => h9) rfl (by decide +kernel) rfl rfl (Nat.le_of_ble_eq_true rfl) dX0_remember_74 (fun H locs hP hD hS => ?_)
          have hP : va_P (dC, dI) vwCl [(oG, .inr (0, [.ref g1, .ref g2, .int 0, .int lG])), (g1, .inl (cI, 6000, .inl f2)), (g2, .inl (cI, 20, .inl f_4)), (ax, .inl (cI, 300, .inl fx)), (nx, .inr (5, [.ref ax, .int lx]))] H := hP
          have hD : va_D A [(oG, .inr (0, [.ref g1, .ref g2, .int 0, .int lG])), (g1, .inl (cI, 6000, .inl f2)), (g2, .inl (cI, 20, .inl f_4)), (ax, .inl (cI, 300, .inl fx)), (nx, .inr (5, [.ref ax, .int lx]))] := hD
          refine lv_aload_n hx hb dX0_remember_77 rfl (lv_at hl 2 rfl) ?_
          refine lv_aload_n hx hb dX0_remember_78 rfl (lv_at hl 2 rfl) ?_
          refine va_get (D := (dC, dI)) (ci := 0) (v := .int lG) (C := RX0) (T := TX0) (N := 4) hx hb hts in_X0 hown hK hP 0 rfl rfl 3 (by decide) (hts (.fieldLink RX0 22 "TextMender$Changes" "length" "I") (List.mem_of_getElem? (i := 8) rfl)) (fun _ h9 => h9) rfl dX0_remember_79 ?_
          refine lv_iconst (v := 1) hx hb dX0_remember_82 (by decide) ?_
          refine lv_iadd hx hb dX0_remember_83 ?_
          refine lv_topi (fun x_9 ex_9 => ?_)
          have tx_9 : x_9.toInt = lG.toInt + 1 := v_add ex_9 (by show -2147483648 ≤ lG.toInt + 1; omega) (by show lG.toInt + 1 < 2147483648; omega)
          refine lv_bipush (v := 20) hx hb dX0_remember_84 (by decide) ?_
          refine va_mmin hx hb (by rw [hml]; exact hl.1.symm) hown (hts (.methodLink RX0 30 Lib.Math.min.name) (List.mem_of_getElem? (i := 1) rfl)) (hts (.static Lib.Math.min.name) (List.mem_of_getElem? (i := 2) rfl)) (hts (.initialized "java/lang/Math") (List.mem_of_getElem? (i := 3) rfl)) (hts (.code Lib.Math.min.name Lib.Math.min.code 2 (some .int)) (List.mem_of_getElem? (i := 4) rfl)) (Nat.le_of_ble_eq_true rfl) (Nat.le_of_ble_eq_true rfl) (Nat.zero_le _) (Nat.zero_le _) dX0_remember_86 ?_
          refine lv_topi (fun x_10 ex_10 => ?_)
          have tx_10 : x_10.toInt ≤ x_9.toInt ∧ x_10.toInt ≤ 20 ∧ (x_10.toInt = x_9.toInt ∨ x_10.toInt = 20) := v_min ex_10
          refine va_put (D := (dC, dI)) (ci := 0) (v := .int x_10) (ty := .int) (C := RX0) (T := TX0) (N := 4) hx hb hts in_X0 tyX0 tyX0_ok nmX0 hown hK hP hD hS 0 rfl rfl 3 (by decide) (hts (.fieldLink RX0 22 "TextMender$Changes" "length" "I") (List.mem_of_getElem? (i := 8) rfl)) (fun _ h9 => h9) rfl (by decide +kernel) rfl rfl (Nat.le_of_ble_eq_true rfl) dX0_remember_89 (fun H locs hP hD hS => ?_)
          have hP : va_P (dC, dI) vwCl [(oG, .inr (0, [.ref g1, .ref g2, .int 0, .int x_10])), (g1, .inl (cI, 6000, .inl f2)), (g2, .inl (cI, 20, .inl f_4)), (ax, .inl (cI, 300, .inl fx)), (nx, .inr (5, [.ref ax, .int lx]))] H := hP
          have hD : va_D A [(oG, .inr (0, [.ref g1, .ref g2, .int 0, .int x_10])), (g1, .inl (cI, 6000, .inl f2)), (g2, .inl (cI, 20, .inl f_4)), (ax, .inl (cI, 300, .inl fx)), (nx, .inr (5, [.ref ax, .int lx]))] := hD
          have hP9 := hP.sub (ws' := [(oG, .inr (0, [.ref g1, .ref g2, .int 0, .int x_10])), (g1, .inl (cI, 6000, .inl f2)), (g2, .inl (cI, 20, .inl f_4)), (nx, .inr (5, [.ref ax, .int lx])), (ax, .inl (cI, 300, .inl fx))]) [0, 1, 2, 4, 3] rfl
          have hD9 := hD.sub (ws' := [(oG, .inr (0, [.ref g1, .ref g2, .int 0, .int x_10])), (g1, .inl (cI, 6000, .inl f2)), (g2, .inl (cI, 20, .inl f_4)), (nx, .inr (5, [.ref ax, .int lx])), (ax, .inl (cI, 300, .inl fx))]) [0, 1, 2, 4, 3] (by decide) rfl
          rw [hQQ]
          exact W.vret hx hb hr (fun t ht hW => ⟨⟨(), rfl, trivial, ⟨0, x_10, f2, f_4, by rw [ht]; exact hP9, hD9, by decide, by omega, g_f4, ⟨CPB_n hcb (by omega), ⟨x_2, by omega, ef_4⟩, by first | omega | (show (0 : Int) = _; omega), by omega⟩⟩⟩, hS.F ht⟩) hS.2.2 dX0_remember_92
      · have tc_3 : i.toInt < x_2.toInt := v_nle c_3
        refine lv_aload_n hx hb dX0_remember_18 rfl (lv_at hl 2 rfl) ?_
        refine va_get (D := (dC, dI)) (ci := 0) (v := .ref g1) (C := RX0) (T := TX0) (N := 4) hx hb hts in_X0 hown hK hP 0 rfl rfl 0 (by decide) (hts (.fieldLink RX0 11 "TextMender$Changes" "kept" "[I") (List.mem_of_getElem? (i := 5) rfl)) (fun _ h9 => h9) rfl dX0_remember_19 ?_
        refine lv_aload_n hx hb dX0_remember_22 rfl (lv_at hl 2 rfl) ?_
        refine va_get (D := (dC, dI)) (ci := 0) (v := .int gn) (C := RX0) (T := TX0) (N := 4) hx hb hts in_X0 hown hK hP 0 rfl rfl 2 (by decide) (hts (.fieldLink RX0 18 "TextMender$Changes" "next" "I") (List.mem_of_getElem? (i := 6) rfl)) (fun _ h9 => h9) rfl dX0_remember_23 ?_
        refine lv_sipush (v := 300) hx hb dX0_remember_26 (by decide) ?_
        refine lv_imul hx hb dX0_remember_29 ?_
        refine lv_topi (fun x_11 ex_11 => ?_)
        have tx_11 : x_11.toInt = gn.toInt * 300 := v_mul ex_11 (by show -2147483648 ≤ gn.toInt * 300; omega) (by show gn.toInt * 300 < 2147483648; omega)
        refine lv_iload_n hx hb dX0_remember_30 rfl (lv_at hl 0 rfl) ?_
        refine lv_iadd hx hb dX0_remember_31 ?_
        refine lv_topi (fun x_12 ex_12 => ?_)
        have tx_12 : x_12.toInt = x_11.toInt + i.toInt := v_add ex_12 (by show -2147483648 ≤ x_11.toInt + i.toInt; omega) (by show x_11.toInt + i.toInt < 2147483648; omega)
        refine lv_aload_n hx hb dX0_remember_32 rfl (lv_at hl 3 rfl) ?_
        refine lv_iload_n hx hb dX0_remember_33 rfl (lv_at hl 0 rfl) ?_
        have hPc := hP.sub (ws' := [(nx, .inr (5, [.ref ax, .int lx])), (ax, .inl (cI, 300, .inl fx))]) [4, 3] rfl
        have hDc := hD.sub (ws' := [(nx, .inr (5, [.ref ax, .int lx])), (ax, .inl (cI, 300, .inl fx))]) [4, 3] (by decide) rfl
        have hFc := va_free (wc := [(nx, .inr (5, [.ref ax, .int lx])), (ax, .inl (cI, 300, .inl fx))]) hD hS hA [4, 3] rfl
        refine va_calli (va_runV (As := [.int i]) (rest := [.int x_12, .ref g1]) ⟨hx, hb, hml, hown, hts⟩ (m_X5_get l dC dI cI cS H.size nx ax 300 lx fx i (by omega) (by omega)) (cwV 1 hts gX0_remember_X5_get rfl rfl rfl (by decide +kernel) ⟨Nat.le_of_ble_eq_true rfl, Nat.le_of_ble_eq_true rfl⟩) ⟨fun a U g mk q => by obtain ⟨q0, q1, qP, qK, qD⟩ := q; exact ⟨q0, q1, qP, va_K.moved (u := U) (U := U.calling g mk a) (Vm.Alike.refl U.vm) qK, qD⟩, va_recv hK hPc (ci := 5) (q0 := 0) rfl rfl, fun U hU hW => ⟨rfl, by rw [hU], by rw [hU]; exact hPc, va_K.moved hW.alike hK, hDc.weaken (fun _ _ _ _ => trivial)⟩⟩ rfl rfl hl.1 rfl (lv_room (Nat.le_of_ble_eq_true rfl)) dX0_remember_34 ⟨Nat.le_of_ble_eq_true rfl, Nat.le_of_ble_eq_true rfl⟩) hS (fun q _ h => hFc q h) hFc (fun r_13 u t H1 locs ht hvm hw hB hz1 hk1 hS => ?_)
        subst hw
        obtain ⟨hP1, hD1, hf13_0⟩ := hB
        rw [ht] at hP1
        obtain ⟨hP, hD⟩ := va_join (wr := [(oG, .inr (0, [.ref g1, .ref g2, .int gn, .int lG])), (g1, .inl (cI, 6000, .inl f2)), (g2, .inl (cI, 20, .inl fG2))]) (w1 := [(nx, .inr (5, [.ref ax, .int lx])), (ax, .inl (cI, 300, .inl fx))]) hP hD [4, 3] [0, 1, 2] rfl rfl (by decide) (by decide) hk1 hFc hP1 hD1
        generalize H1 = H at hP hS ⊢
        have hP : va_P (dC, dI) vwCl [(oG, .inr (0, [.ref g1, .ref g2, .int gn, .int lG])), (g1, .inl (cI, 6000, .inl f2)), (g2, .inl (cI, 20, .inl fG2)), (nx, .inr (5, [.ref ax, .int lx])), (ax, .inl (cI, 300, .inl fx))] H := hP
        have hD : va_D A [(oG, .inr (0, [.ref g1, .ref g2, .int gn, .int lG])), (g1, .inl (cI, 6000, .inl f2)), (g2, .inl (cI, 20, .inl fG2)), (nx, .inr (5, [.ref ax, .int lx])), (ax, .inl (cI, 300, .inl fx))] := hD
        have hg13 : r_13 = fx i.toNatClampNeg := F_get_f hf13_0 (by omega) (by omega)
        refine va_iast hx hb hK hP hD hS 1 0 rfl rfl (v_in (by omega)) dX0_remember_37 (fun H locs hP hD hS => ?_)
        have hP : va_P (dC, dI) vwCl [(oG, .inr (0, [.ref g1, .ref g2, .int gn, .int lG])), (g1, .inl (cI, 6000, .inl (upd f2 (x_12 : Int32).toNatClampNeg r_13))), (g2, .inl (cI, 20, .inl fG2)), (nx, .inr (5, [.ref ax, .int lx])), (ax, .inl (cI, 300, .inl fx))] H := hP
        have hD : va_D A [(oG, .inr (0, [.ref g1, .ref g2, .int gn, .int lG])), (g1, .inl (cI, 6000, .inl (upd f2 (x_12 : Int32).toNatClampNeg r_13))), (g2, .inl (cI, 20, .inl fG2)), (nx, .inr (5, [.ref ax, .int lx])), (ax, .inl (cI, 300, .inl fx))] := hD
        obtain ⟨f_14, ef_14⟩ : ∃ g : Nat → Int32, g = upd f2 (x_12 : Int32).toNatClampNeg r_13 := ⟨_, rfl⟩
        rw [← ef_14] at hP hD
        obtain ⟨x_15, ex_15⟩ : ∃ y : Int32, y = i + 1 := ⟨_, rfl⟩
        have tx_15 : x_15.toInt = i.toInt + 1 := v_add ex_15 (by show -2147483648 ≤ i.toInt + 1; omega) (by show i.toInt + 1 < 2147483648; omega)
        refine lv_iinc (v := x_15) (lv' := [(3, .int x_15), (2, .int x_2), (0, .ref oG), (1, .ref nx)]) hx hb dX0_remember_38 hl (k := 0) rfl (by rw [ex_15]; rfl) (by decide) rfl (fun ls hl => ?_)
        refine lv_goto (tgt := 13) hx hb dX0_remember_41 (by decide) ?_
        exact ih_13 x_15 f_14 _ _ _ (by have hm9 := hm_13; show ((300 - x_15.toInt : Int)).toNat < k_13; omega) (by show 0 ≤ x_15.toInt ∧ x_15.toInt ≤ 300; omega) (by show x_15.toInt ≤ lx.toInt; omega) (CPB_s hcb (by omega) (by omega) hg13 ef_14 (by omega) (by omega)) (hP.sub [0, 1, 2, 4, 3] rfl) (hD.sub [0, 1, 2, 4, 3] (by decide) rfl) hS (lv_sub hl [0, 1, 2, 3] rfl)
  exact LOOP_13 _ 0 fG1 _ _ _ (Nat.lt_succ_self _) (by decide) (by show 0 ≤ lx.toInt; omega) (CPB_0 (by decide)) hP hD hS (lv_sub hl [0, 1, 2, 3] rfl)

set_option maxHeartbeats 40000000 in
set_option maxRecDepth 100000 in
theorem f_X11_bec (l : Launch) (dC : Nat → ClassId) (dI : Nat → Nat → Nat) (cI cS : ClassId) (sz : Nat) (oX : Nat) (nM : Nat) (nT : Nat) (nL : Nat) (oC : Nat) (oP : Nat) (oH : Nat) (oK : Nat) (oG : Nat) (oR : Nat) (oQ : Nat) (oW : Nat) (aL : Nat) (aM : Nat) (g1 : Nat) (g2 : Nat) (nw : Nat) (w1 : Nat) (w2 : Nat) (w3 : Nat) (o7 : Nat) (o8 : Nat) (o9 : Nat) (w4 : Nat) (w5 : Nat) (w6 : Nat) (w7 : Nat) (fa : Int32) (lL : Int32) (fL : Nat → Int32) (lM : Int32) (fM : Nat → Int32) (gn : Int32) (lG : Int32) (fG1 : Nat → Int32) (fG2 : Nat → Int32) (ke : Int32) (tl : Int32) (fsh : Int32) (wi : Int32) (ri : Int32) (fm : Int32) (lm : Int32) (g_lL : 0 ≤ lL.toInt ∧ lL.toInt ≤ 300) (g_lM : 0 ≤ lM.toInt ∧ lM.toInt ≤ 300) (g_gn : 0 ≤ gn.toInt ∧ gn.toInt ≤ 19) (g_lG : 0 ≤ lG.toInt ∧ lG.toInt ≤ 20) (g_fG2 : rg 0 300 fG2) (g_ke : 0 ≤ ke.toInt ∧ ke.toInt ≤ 200) (g_fsh : 0 ≤ fsh.toInt ∧ fsh.toInt ≤ 1) (g_fm : -1 ≤ fm.toInt ∧ fm.toInt ≤ 800) (g_lm : -1 ≤ lm.toInt ∧ lm.toInt ≤ 800) : Met l yX11_become wsX11_become ({ frames := 3, cells := 0, slots := 0, locals := 90 } : Room) (va_Pc [.ref oX, .ref nM] (fun U => U.heap.size = sz ∧ va_P (dC, dI) vwCl [(oX, .inr (11, [.ref nT, .ref nL, .ref nM, .ref oC, .ref oP, .ref oH, .ref oK, .ref oG, .ref oR, .ref oQ, .ref oW, .int fa])), (nL, .inr (5, [.ref aL, .int lL])), (aL, .inl (cI, 300, .inl fL)), (nM, .inr (5, [.ref aM, .int lM])), (aM, .inl (cI, 300, .inl fM)), (oG, .inr (0, [.ref g1, .ref g2, .int gn, .int lG])), (g1, .inl (cI, 6000, .inl fG1)), (g2, .inl (cI, 20, .inl fG2)), (oW, .inr (1, [.ref oC, .ref oK, .ref nw, .ref w1, .ref w2, .ref w3, .ref o7, .ref o8, .ref o9, .ref w4, .ref w5, .ref w6, .ref w7, .int ke, .int tl, .int fsh, .int wi, .int ri, .int fm, .int lm]))] U.heap ∧ va_K (dC, dI) vwCl [(cI, .int), (cS, .short)] U ∧ va_D (fun _ => True) [(oX, .inr (11, [.ref nT, .ref nL, .ref nM, .ref oC, .ref oP, .ref oH, .ref oK, .ref oG, .ref oR, .ref oQ, .ref oW, .int fa])), (nL, .inr (5, [.ref aL, .int lL])), (aL, .inl (cI, 300, .inl fL)), (nM, .inr (5, [.ref aM, .int lM])), (aM, .inl (cI, 300, .inl fM)), (oG, .inr (0, [.ref g1, .ref g2, .int gn, .int lG])), (g1, .inl (cI, 6000, .inl fG1)), (g2, .inl (cI, 20, .inl fG2)), (oW, .inr (1, [.ref oC, .ref oK, .ref nw, .ref w1, .ref w2, .ref w3, .ref o7, .ref o8, .ref o9, .ref w4, .ref w5, .ref w6, .ref w7, .int ke, .int tl, .int fsh, .int wi, .int ri, .int fm, .int lm]))])) (va_Qi (fun (r : Int32) (u : Int32) => r = u) (fun (r : Int32) t => ∃ (lL' : Int32) (fL' : Nat → Int32) (fsh' : Int32) (gn' : Int32) (lG' : Int32) (fG1' : Nat → Int32) (fG2' : Nat → Int32), va_P (dC, dI) vwCl [(oX, .inr (11, [.ref nT, .ref nL, .ref nM, .ref oC, .ref oP, .ref oH, .ref oK, .ref oG, .ref oR, .ref oQ, .ref oW, .int fa])), (nL, .inr (5, [.ref aL, .int lL'])), (aL, .inl (cI, 300, .inl fL')), (nM, .inr (5, [.ref aM, .int lM])), (aM, .inl (cI, 300, .inl fM)), (oG, .inr (0, [.ref g1, .ref g2, .int gn', .int lG'])), (g1, .inl (cI, 6000, .inl fG1')), (g2, .inl (cI, 20, .inl fG2')), (oW, .inr (1, [.ref oC, .ref oK, .ref nw, .ref w1, .ref w2, .ref w3, .ref o7, .ref o8, .ref o9, .ref w4, .ref w5, .ref w6, .ref w7, .int ke, .int tl, .int fsh', .int wi, .int ri, .int fm, .int lm]))] t.heap ∧ va_D (va_A [(oX, .inr (11, [.ref nT, .ref nL, .ref nM, .ref oC, .ref oP, .ref oH, .ref oK, .ref oG, .ref oR, .ref oQ, .ref oW, .int fa])), (nL, .inr (5, [.ref aL, .int lL])), (aL, .inl (cI, 300, .inl fL)), (nM, .inr (5, [.ref aM, .int lM])), (aM, .inl (cI, 300, .inl fM)), (oG, .inr (0, [.ref g1, .ref g2, .int gn, .int lG])), (g1, .inl (cI, 6000, .inl fG1)), (g2, .inl (cI, 20, .inl fG2)), (oW, .inr (1, [.ref oC, .ref oK, .ref nw, .ref w1, .ref w2, .ref w3, .ref o7, .ref o8, .ref o9, .ref w4, .ref w5, .ref w6, .ref w7, .int ke, .int tl, .int fsh, .int wi, .int ri, .int fm, .int lm]))] sz) [(oX, .inr (11, [.ref nT, .ref nL, .ref nM, .ref oC, .ref oP, .ref oH, .ref oK, .ref oG, .ref oR, .ref oQ, .ref oW, .int fa])), (nL, .inr (5, [.ref aL, .int lL'])), (aL, .inl (cI, 300, .inl fL')), (nM, .inr (5, [.ref aM, .int lM])), (aM, .inl (cI, 300, .inl fM)), (oG, .inr (0, [.ref g1, .ref g2, .int gn', .int lG'])), (g1, .inl (cI, 6000, .inl fG1')), (g2, .inl (cI, 20, .inl fG2')), (oW, .inr (1, [.ref oC, .ref oK, .ref nw, .ref w1, .ref w2, .ref w3, .ref o7, .ref o8, .ref o9, .ref w4, .ref w5, .ref w6, .ref w7, .int ke, .int tl, .int fsh', .int wi, .int ri, .int fm, .int lm]))] ∧ (0 ≤ lL'.toInt ∧ lL'.toInt ≤ 300) ∧ (0 ≤ fsh'.toInt ∧ fsh'.toInt ≤ 1) ∧ (0 ≤ gn'.toInt ∧ gn'.toInt ≤ 19) ∧ (0 ≤ lG'.toInt ∧ lG'.toInt ≤ 20) ∧ (rg 0 300 fG2') ∧ (r.toInt = lM.toInt) ∧ (F_bC gn gn' lG lG' lL lL' lM fG1 fG1' fG2 fG2' fL fL' fM) ∧ (fsh' = 0)) (va_A [(oX, .inr (11, [.ref nT, .ref nL, .ref nM, .ref oC, .ref oP, .ref oH, .ref oK, .ref oG, .ref oR, .ref oQ, .ref oW, .int fa])), (nL, .inr (5, [.ref aL, .int lL])), (aL, .inl (cI, 300, .inl fL)), (nM, .inr (5, [.ref aM, .int lM])), (aM, .inl (cI, 300, .inl fM)), (oG, .inr (0, [.ref g1, .ref g2, .int gn, .int lG])), (g1, .inl (cI, 6000, .inl fG1)), (g2, .inl (cI, 20, .inl fG2)), (oW, .inr (1, [.ref oC, .ref oK, .ref nw, .ref w1, .ref w2, .ref w3, .ref o7, .ref o8, .ref o9, .ref w4, .ref w5, .ref w6, .ref w7, .int ke, .int tl, .int fsh, .int wi, .int ri, .int fm, .int lm]))] sz)) 0 0 (va_A [(oX, .inr (11, [.ref nT, .ref nL, .ref nM, .ref oC, .ref oP, .ref oH, .ref oK, .ref oG, .ref oR, .ref oQ, .ref oW, .int fa])), (nL, .inr (5, [.ref aL, .int lL])), (aL, .inl (cI, 300, .inl fL)), (nM, .inr (5, [.ref aM, .int lM])), (aM, .inl (cI, 300, .inl fM)), (oG, .inr (0, [.ref g1, .ref g2, .int gn, .int lG])), (g1, .inl (cI, 6000, .inl fG1)), (g2, .inl (cI, 20, .inl fG2)), (oW, .inr (1, [.ref oC, .ref oK, .ref nw, .ref w1, .ref w2, .ref w3, .ref o7, .ref o8, .ref o9, .ref w4, .ref w5, .ref w6, .ref w7, .int ke, .int tl, .int fsh, .int wi, .int ri, .int fm, .int lm]))] sz) := by
  refine Met.ofW (cc := cX11_become) (maxL := 2) (ret := (some .int)) (by decide) rfl ?_
  intro p e s m args below meth c s₁ B hml hv
  obtain ⟨rfl, hsz, hP, hK, hD0⟩ := hv
  have hx := B.exec
  have hb := B.bytes
  have hr := B.returns
  have hts := atoms_spec (ws := wsX11_become) B.pre
  have hown : s.vm.findClass RX11 = some m.cls := findClass_of_methodNamed B.named
  have hlocks := B.notSynchronized
  have in_X11 : ∀ w ∈ wsX110, w ∈ wsX11_become := fun _ h => List.mem_cons_of_mem _ (List.mem_append_left _ (List.mem_append_left _ (List.mem_append_left _ (List.mem_append_right _ (h)))))
  subst hsz
  have hD := hD0.self (sz := s.heap.size)
  generalize hAe : va_A [(oX, .inr (11, [.ref nT, .ref nL, .ref nM, .ref oC, .ref oP, .ref oH, .ref oK, .ref oG, .ref oR, .ref oQ, .ref oW, .int fa])), (nL, .inr (5, [.ref aL, .int lL])), (aL, .inl (cI, 300, .inl fL)), (nM, .inr (5, [.ref aM, .int lM])), (aM, .inl (cI, 300, .inl fM)), (oG, .inr (0, [.ref g1, .ref g2, .int gn, .int lG])), (g1, .inl (cI, 6000, .inl fG1)), (g2, .inl (cI, 20, .inl fG2)), (oW, .inr (1, [.ref oC, .ref oK, .ref nw, .ref w1, .ref w2, .ref w3, .ref o7, .ref o8, .ref o9, .ref w4, .ref w5, .ref w6, .ref w7, .int ke, .int tl, .int fsh, .int wi, .int ri, .int fm, .int lm]))] s.heap.size = A at hD ⊢
  have hA : ∀ q : Nat, s.heap.size ≤ q → A q := fun q h => by rw [← hAe]; exact Or.inr h
  have hS : va_S A s.heap s.heap [] := va_S.rf
  have hP : va_P (dC, dI) vwCl [(oX, .inr (11, [.ref nT, .ref nL, .ref nM, .ref oC, .ref oP, .ref oH, .ref oK, .ref oG, .ref oR, .ref oQ, .ref oW, .int fa])), (nL, .inr (5, [.ref aL, .int lL])), (aL, .inl (cI, 300, .inl fL)), (nM, .inr (5, [.ref aM, .int lM])), (aM, .inl (cI, 300, .inl fM)), (oG, .inr (0, [.ref g1, .ref g2, .int gn, .int lG])), (g1, .inl (cI, 6000, .inl fG1)), (g2, .inl (cI, 20, .inl fG2)), (oW, .inr (1, [.ref oC, .ref oK, .ref nw, .ref w1, .ref w2, .ref w3, .ref o7, .ref o8, .ref o9, .ref w4, .ref w5, .ref w6, .ref w7, .int ke, .int tl, .int fsh, .int wi, .int ri, .int fm, .int lm]))] s.heap := hP
  have hl := lv_entry ([.ref oX, .ref nM]) (n := 2) (Nat.le_of_ble_eq_true rfl)
  rw [lg_entry_eq]
  generalize (lg_sl ([.ref oX, .ref nM]) ++ List.replicate (2 - (lg_sl ([.ref oX, .ref nM])).length) Slot.unset).toArray = ls at hl ⊢
  have hl : lv_has ls 2 [(0, .ref oX), (1, .ref nM)] := hl
  obtain ⟨QQ, hQQ⟩ : ∃ QQ : Array Value → State → Outcome → State → Prop, QQ = va_Qi (fun (r : Int32) (u : Int32) => r = u) (fun (r : Int32) t => ∃ (lL' : Int32) (fL' : Nat → Int32) (fsh' : Int32) (gn' : Int32) (lG' : Int32) (fG1' : Nat → Int32) (fG2' : Nat → Int32), va_P (dC, dI) vwCl [(oX, .inr (11, [.ref nT, .ref nL, .ref nM, .ref oC, .ref oP, .ref oH, .ref oK, .ref oG, .ref oR, .ref oQ, .ref oW, .int fa])), (nL, .inr (5, [.ref aL, .int lL'])), (aL, .inl (cI, 300, .inl fL')), (nM, .inr (5, [.ref aM, .int lM])), (aM, .inl (cI, 300, .inl fM)), (oG, .inr (0, [.ref g1, .ref g2, .int gn', .int lG'])), (g1, .inl (cI, 6000, .inl fG1')), (g2, .inl (cI, 20, .inl fG2')), (oW, .inr (1, [.ref oC, .ref oK, .ref nw, .ref w1, .ref w2, .ref w3, .ref o7, .ref o8, .ref o9, .ref w4, .ref w5, .ref w6, .ref w7, .int ke, .int tl, .int fsh', .int wi, .int ri, .int fm, .int lm]))] t.heap ∧ va_D A [(oX, .inr (11, [.ref nT, .ref nL, .ref nM, .ref oC, .ref oP, .ref oH, .ref oK, .ref oG, .ref oR, .ref oQ, .ref oW, .int fa])), (nL, .inr (5, [.ref aL, .int lL'])), (aL, .inl (cI, 300, .inl fL')), (nM, .inr (5, [.ref aM, .int lM])), (aM, .inl (cI, 300, .inl fM)), (oG, .inr (0, [.ref g1, .ref g2, .int gn', .int lG'])), (g1, .inl (cI, 6000, .inl fG1')), (g2, .inl (cI, 20, .inl fG2')), (oW, .inr (1, [.ref oC, .ref oK, .ref nw, .ref w1, .ref w2, .ref w3, .ref o7, .ref o8, .ref o9, .ref w4, .ref w5, .ref w6, .ref w7, .int ke, .int tl, .int fsh', .int wi, .int ri, .int fm, .int lm]))] ∧ (0 ≤ lL'.toInt ∧ lL'.toInt ≤ 300) ∧ (0 ≤ fsh'.toInt ∧ fsh'.toInt ≤ 1) ∧ (0 ≤ gn'.toInt ∧ gn'.toInt ≤ 19) ∧ (0 ≤ lG'.toInt ∧ lG'.toInt ≤ 20) ∧ (rg 0 300 fG2') ∧ (r.toInt = lM.toInt) ∧ (F_bC gn gn' lG lG' lL lL' lM fG1 fG1' fG2 fG2' fL fL' fM) ∧ (fsh' = 0)) A := ⟨_, rfl⟩
  rw [← hQQ]
  refine lv_aload_n hx hb dX11_become_0 rfl (lv_at hl 0 rfl) ?_
  refine va_get (D := (dC, dI)) (ci := 11) (v := .ref oG) (C := RX11) (T := TX11) (N := 12) hx hb hts in_X11 hown hK hP 0 rfl rfl 7 (by decide) (hts (.fieldLink RX11 59 "TextMender" "changes" "LTextMender$Changes;") (List.mem_of_getElem? (i := 1) rfl)) (fun _ h9 => h9) rfl dX11_become_1 ?_
  refine lv_aload_n hx hb dX11_become_4 rfl (lv_at hl 0 rfl) ?_
  refine va_get (D := (dC, dI)) (ci := 11) (v := .ref nL) (C := RX11) (T := TX11) (N := 12) hx hb hts in_X11 hown hK hP 0 rfl rfl 1 (by decide) (hts (.fieldLink RX11 34 "TextMender" "letters" "LTextMender$Numbers;") (List.mem_of_getElem? (i := 2) rfl)) (fun _ h9 => h9) rfl dX11_become_5 ?_
  have hPc := hP.sub (ws' := [(oG, .inr (0, [.ref g1, .ref g2, .int gn, .int lG])), (g1, .inl (cI, 6000, .inl fG1)), (g2, .inl (cI, 20, .inl fG2)), (nL, .inr (5, [.ref aL, .int lL])), (aL, .inl (cI, 300, .inl fL))]) [5, 6, 7, 1, 2] rfl
  have hDc := hD.sub (ws' := [(oG, .inr (0, [.ref g1, .ref g2, .int gn, .int lG])), (g1, .inl (cI, 6000, .inl fG1)), (g2, .inl (cI, 20, .inl fG2)), (nL, .inr (5, [.ref aL, .int lL])), (aL, .inl (cI, 300, .inl fL))]) [5, 6, 7, 1, 2] (by decide) rfl
  have hFc := va_free (wc := [(oG, .inr (0, [.ref g1, .ref g2, .int gn, .int lG])), (g1, .inl (cI, 6000, .inl fG1)), (g2, .inl (cI, 20, .inl fG2)), (nL, .inr (5, [.ref aL, .int lL])), (aL, .inl (cI, 300, .inl fL))]) hD hS hA [5, 6, 7, 1, 2] rfl
  refine va_callv (va_runV (As := [.ref nL]) (rest := []) ⟨hx, hb, hml, hown, hts⟩ (f_X0_remember l dC dI cI cS s.heap.size oG nL g1 g2 aL gn lG fG1 fG2 lL fL (by omega) (by omega) (g_fG2) (by omega)) (cwV 1 hts gX11_become_X0_remember rfl rfl rfl (by decide +kernel) ⟨Nat.le_of_ble_eq_true rfl, Nat.le_of_ble_eq_true rfl⟩) ⟨fun a U g mk q => by obtain ⟨q0, q1, qP, qK, qD⟩ := q; exact ⟨q0, q1, qP, va_K.moved (u := U) (U := U.calling g mk a) (Vm.Alike.refl U.vm) qK, qD⟩, va_recv hK hPc (ci := 0) (q0 := 0) rfl rfl, fun U hU hW => ⟨rfl, by rw [hU], by rw [hU]; exact hPc, va_K.moved hW.alike hK, hDc.weaken (fun _ _ _ _ => trivial)⟩⟩ rfl rfl hl.1 rfl (lv_room (Nat.le_of_ble_eq_true rfl)) dX11_become_8 ⟨Nat.le_of_ble_eq_true rfl, Nat.le_of_ble_eq_true rfl⟩) hS (fun q _ h => hFc q h) hFc (fun u t H1 locs ht hvm hw hB hz1 hk1 hS => ?_)
  obtain ⟨gn_1, lG_1, fG1_1, fG2_1, hP1, hD1, hf1_0, hf1_1, hf1_2, hf1_3⟩ := hB
  rw [ht] at hP1
  obtain ⟨hP, hD⟩ := va_join (wr := [(oX, .inr (11, [.ref nT, .ref nL, .ref nM, .ref oC, .ref oP, .ref oH, .ref oK, .ref oG, .ref oR, .ref oQ, .ref oW, .int fa])), (nM, .inr (5, [.ref aM, .int lM])), (aM, .inl (cI, 300, .inl fM)), (oW, .inr (1, [.ref oC, .ref oK, .ref nw, .ref w1, .ref w2, .ref w3, .ref o7, .ref o8, .ref o9, .ref w4, .ref w5, .ref w6, .ref w7, .int ke, .int tl, .int fsh, .int wi, .int ri, .int fm, .int lm]))]) (w1 := [(oG, .inr (0, [.ref g1, .ref g2, .int gn_1, .int lG_1])), (g1, .inl (cI, 6000, .inl fG1_1)), (g2, .inl (cI, 20, .inl fG2_1)), (nL, .inr (5, [.ref aL, .int lL])), (aL, .inl (cI, 300, .inl fL))]) hP hD [5, 6, 7, 1, 2] [0, 3, 4, 8] rfl rfl (by decide) (by decide) hk1 hFc hP1 hD1
  generalize H1 = H at hP hS ⊢
  have hP : va_P (dC, dI) vwCl [(oX, .inr (11, [.ref nT, .ref nL, .ref nM, .ref oC, .ref oP, .ref oH, .ref oK, .ref oG, .ref oR, .ref oQ, .ref oW, .int fa])), (nM, .inr (5, [.ref aM, .int lM])), (aM, .inl (cI, 300, .inl fM)), (oW, .inr (1, [.ref oC, .ref oK, .ref nw, .ref w1, .ref w2, .ref w3, .ref o7, .ref o8, .ref o9, .ref w4, .ref w5, .ref w6, .ref w7, .int ke, .int tl, .int fsh, .int wi, .int ri, .int fm, .int lm])), (oG, .inr (0, [.ref g1, .ref g2, .int gn_1, .int lG_1])), (g1, .inl (cI, 6000, .inl fG1_1)), (g2, .inl (cI, 20, .inl fG2_1)), (nL, .inr (5, [.ref aL, .int lL])), (aL, .inl (cI, 300, .inl fL))] H := hP
  have hD : va_D A [(oX, .inr (11, [.ref nT, .ref nL, .ref nM, .ref oC, .ref oP, .ref oH, .ref oK, .ref oG, .ref oR, .ref oQ, .ref oW, .int fa])), (nM, .inr (5, [.ref aM, .int lM])), (aM, .inl (cI, 300, .inl fM)), (oW, .inr (1, [.ref oC, .ref oK, .ref nw, .ref w1, .ref w2, .ref w3, .ref o7, .ref o8, .ref o9, .ref w4, .ref w5, .ref w6, .ref w7, .int ke, .int tl, .int fsh, .int wi, .int ri, .int fm, .int lm])), (oG, .inr (0, [.ref g1, .ref g2, .int gn_1, .int lG_1])), (g1, .inl (cI, 6000, .inl fG1_1)), (g2, .inl (cI, 20, .inl fG2_1)), (nL, .inr (5, [.ref aL, .int lL])), (aL, .inl (cI, 300, .inl fL))] := hD
  refine lv_aload_n hx hb dX11_become_11 rfl (lv_at hl 0 rfl) ?_
  refine va_get (D := (dC, dI)) (ci := 11) (v := .ref nL) (C := RX11) (T := TX11) (N := 12) hx hb hts in_X11 hown hK hP 0 rfl rfl 1 (by decide) (hts (.fieldLink RX11 34 "TextMender" "letters" "LTextMender$Numbers;") (List.mem_of_getElem? (i := 2) rfl)) (fun _ h9 => h9) rfl dX11_become_12 ?_
  refine lv_aload_n hx hb dX11_become_15 rfl (lv_at hl 1 rfl) ?_
  have hPc := hP.sub (ws' := [(nL, .inr (5, [.ref aL, .int lL])), (aL, .inl (cI, 300, .inl fL)), (nM, .inr (5, [.ref aM, .int lM])), (aM, .inl (cI, 300, .inl fM))]) [7, 8, 1, 2] rfl
  have hDc := hD.sub (ws' := [(nL, .inr (5, [.ref aL, .int lL])), (aL, .inl (cI, 300, .inl fL)), (nM, .inr (5, [.ref aM, .int lM])), (aM, .inl (cI, 300, .inl fM))]) [7, 8, 1, 2] (by decide) rfl
  have hFc := va_free (wc := [(nL, .inr (5, [.ref aL, .int lL])), (aL, .inl (cI, 300, .inl fL)), (nM, .inr (5, [.ref aM, .int lM])), (aM, .inl (cI, 300, .inl fM))]) hD hS hA [7, 8, 1, 2] rfl
  refine va_calli (va_runV (As := [.ref nM]) (rest := []) ⟨hx, hb, hml, hown, hts⟩ (m_X5_takeAll l dC dI cI cS H.size nL nM aL aM 300 300 lL fL lM fM (by omega) (by omega) (by omega) (by omega)) (cwV 1 hts gX11_become_X5_takeAll rfl rfl rfl (by decide +kernel) ⟨Nat.le_of_ble_eq_true rfl, Nat.le_of_ble_eq_true rfl⟩) ⟨fun a U g mk q => by obtain ⟨q0, q1, qP, qK, qD⟩ := q; exact ⟨q0, q1, qP, va_K.moved (u := U) (U := U.calling g mk a) (Vm.Alike.refl U.vm) qK, qD⟩, va_recv hK hPc (ci := 5) (q0 := 0) rfl rfl, fun U hU hW => ⟨rfl, by rw [hU], by rw [hU]; exact hPc, va_K.moved hW.alike hK, hDc.weaken (fun _ _ _ _ => trivial)⟩⟩ rfl rfl hl.1 rfl (lv_room (Nat.le_of_ble_eq_true rfl)) dX11_become_16 ⟨Nat.le_of_ble_eq_true rfl, Nat.le_of_ble_eq_true rfl⟩) hS (fun q _ h => hFc q h) hFc (fun r_2 u t H1 locs ht hvm hw hB hz1 hk1 hS => ?_)
  subst hw
  obtain ⟨lu_2, fu_2, hP1, hD1, hf2_0, hf2_1, hf2_2⟩ := hB
  rw [ht] at hP1
  obtain ⟨hP, hD⟩ := va_join (wr := [(oX, .inr (11, [.ref nT, .ref nL, .ref nM, .ref oC, .ref oP, .ref oH, .ref oK, .ref oG, .ref oR, .ref oQ, .ref oW, .int fa])), (oW, .inr (1, [.ref oC, .ref oK, .ref nw, .ref w1, .ref w2, .ref w3, .ref o7, .ref o8, .ref o9, .ref w4, .ref w5, .ref w6, .ref w7, .int ke, .int tl, .int fsh, .int wi, .int ri, .int fm, .int lm])), (oG, .inr (0, [.ref g1, .ref g2, .int gn_1, .int lG_1])), (g1, .inl (cI, 6000, .inl fG1_1)), (g2, .inl (cI, 20, .inl fG2_1))]) (w1 := [(nL, .inr (5, [.ref aL, .int lu_2])), (aL, .inl (cI, 300, .inl fu_2)), (nM, .inr (5, [.ref aM, .int lM])), (aM, .inl (cI, 300, .inl fM))]) hP hD [7, 8, 1, 2] [0, 3, 4, 5, 6] rfl rfl (by decide) (by decide) hk1 hFc hP1 hD1
  generalize H1 = H at hP hS ⊢
  have hP : va_P (dC, dI) vwCl [(oX, .inr (11, [.ref nT, .ref nL, .ref nM, .ref oC, .ref oP, .ref oH, .ref oK, .ref oG, .ref oR, .ref oQ, .ref oW, .int fa])), (oW, .inr (1, [.ref oC, .ref oK, .ref nw, .ref w1, .ref w2, .ref w3, .ref o7, .ref o8, .ref o9, .ref w4, .ref w5, .ref w6, .ref w7, .int ke, .int tl, .int fsh, .int wi, .int ri, .int fm, .int lm])), (oG, .inr (0, [.ref g1, .ref g2, .int gn_1, .int lG_1])), (g1, .inl (cI, 6000, .inl fG1_1)), (g2, .inl (cI, 20, .inl fG2_1)), (nL, .inr (5, [.ref aL, .int lu_2])), (aL, .inl (cI, 300, .inl fu_2)), (nM, .inr (5, [.ref aM, .int lM])), (aM, .inl (cI, 300, .inl fM))] H := hP
  have hD : va_D A [(oX, .inr (11, [.ref nT, .ref nL, .ref nM, .ref oC, .ref oP, .ref oH, .ref oK, .ref oG, .ref oR, .ref oQ, .ref oW, .int fa])), (oW, .inr (1, [.ref oC, .ref oK, .ref nw, .ref w1, .ref w2, .ref w3, .ref o7, .ref o8, .ref o9, .ref w4, .ref w5, .ref w6, .ref w7, .int ke, .int tl, .int fsh, .int wi, .int ri, .int fm, .int lm])), (oG, .inr (0, [.ref g1, .ref g2, .int gn_1, .int lG_1])), (g1, .inl (cI, 6000, .inl fG1_1)), (g2, .inl (cI, 20, .inl fG2_1)), (nL, .inr (5, [.ref aL, .int lu_2])), (aL, .inl (cI, 300, .inl fu_2)), (nM, .inr (5, [.ref aM, .int lM])), (aM, .inl (cI, 300, .inl fM))] := hD
  have ha2 : lu_2.toInt = lM.toInt := (addAll_cp hf2_2 (by omega) (by omega)).1
  refine lv_pop hx hb dX11_become_19 rfl ?_
  refine lv_aload_n hx hb dX11_become_20 rfl (lv_at hl 0 rfl) ?_
  refine va_get (D := (dC, dI)) (ci := 11) (v := .ref oW) (C := RX11) (T := TX11) (N := 12) hx hb hts in_X11 hown hK hP 0 rfl rfl 10 (by decide) (hts (.fieldLink RX11 86 "TextMender" "choiceBook" "LTextMender$Choices;") (List.mem_of_getElem? (i := 3) rfl)) (fun _ h9 => h9) rfl dX11_become_21 ?_
  have hPc := hP.sub (ws' := [(oW, .inr (1, [.ref oC, .ref oK, .ref nw, .ref w1, .ref w2, .ref w3, .ref o7, .ref o8, .ref o9, .ref w4, .ref w5, .ref w6, .ref w7, .int ke, .int tl, .int fsh, .int wi, .int ri, .int fm, .int lm]))]) [1] rfl
  have hDc := hD.sub (ws' := [(oW, .inr (1, [.ref oC, .ref oK, .ref nw, .ref w1, .ref w2, .ref w3, .ref o7, .ref o8, .ref o9, .ref w4, .ref w5, .ref w6, .ref w7, .int ke, .int tl, .int fsh, .int wi, .int ri, .int fm, .int lm]))]) [1] (by decide) rfl
  have hFc := va_free (wc := [(oW, .inr (1, [.ref oC, .ref oK, .ref nw, .ref w1, .ref w2, .ref w3, .ref o7, .ref o8, .ref o9, .ref w4, .ref w5, .ref w6, .ref w7, .int ke, .int tl, .int fsh, .int wi, .int ri, .int fm, .int lm]))]) hD hS hA [1] rfl
  refine va_callv (va_runV (As := []) (rest := []) ⟨hx, hb, hml, hown, hts⟩ (f_X1_forgetFreshness l dC dI cI cS H.size oW oC oK nw w1 w2 w3 o7 o8 o9 w4 w5 w6 w7 ke tl fsh wi ri fm lm (by omega) (by omega) (by omega) (by omega)) (cwV 0 hts gX11_become_X1_forgetFreshness rfl rfl rfl (by decide +kernel) ⟨Nat.le_of_ble_eq_true rfl, Nat.le_of_ble_eq_true rfl⟩) ⟨fun a U g mk q => by obtain ⟨q0, q1, qP, qK, qD⟩ := q; exact ⟨q0, q1, qP, va_K.moved (u := U) (U := U.calling g mk a) (Vm.Alike.refl U.vm) qK, qD⟩, va_recv hK hPc (ci := 1) (q0 := 0) rfl rfl, fun U hU hW => ⟨rfl, by rw [hU], by rw [hU]; exact hPc, va_K.moved hW.alike hK, hDc.weaken (fun _ _ _ _ => trivial)⟩⟩ rfl rfl hl.1 rfl (lv_room (Nat.le_of_ble_eq_true rfl)) dX11_become_24 ⟨Nat.le_of_ble_eq_true rfl, Nat.le_of_ble_eq_true rfl⟩) hS (fun q _ h => hFc q h) hFc (fun u t H1 locs ht hvm hw hB hz1 hk1 hS => ?_)
  obtain ⟨fsh_3, hP1, hD1, hf3_0, hf3_1⟩ := hB
  rw [ht] at hP1
  obtain ⟨hP, hD⟩ := va_join (wr := [(oX, .inr (11, [.ref nT, .ref nL, .ref nM, .ref oC, .ref oP, .ref oH, .ref oK, .ref oG, .ref oR, .ref oQ, .ref oW, .int fa])), (oG, .inr (0, [.ref g1, .ref g2, .int gn_1, .int lG_1])), (g1, .inl (cI, 6000, .inl fG1_1)), (g2, .inl (cI, 20, .inl fG2_1)), (nL, .inr (5, [.ref aL, .int lu_2])), (aL, .inl (cI, 300, .inl fu_2)), (nM, .inr (5, [.ref aM, .int lM])), (aM, .inl (cI, 300, .inl fM))]) (w1 := [(oW, .inr (1, [.ref oC, .ref oK, .ref nw, .ref w1, .ref w2, .ref w3, .ref o7, .ref o8, .ref o9, .ref w4, .ref w5, .ref w6, .ref w7, .int ke, .int tl, .int fsh_3, .int wi, .int ri, .int fm, .int lm]))]) hP hD [1] [0, 2, 3, 4, 5, 6, 7, 8] rfl rfl (by decide) (by decide) hk1 hFc hP1 hD1
  generalize H1 = H at hP hS ⊢
  have hP : va_P (dC, dI) vwCl [(oX, .inr (11, [.ref nT, .ref nL, .ref nM, .ref oC, .ref oP, .ref oH, .ref oK, .ref oG, .ref oR, .ref oQ, .ref oW, .int fa])), (oG, .inr (0, [.ref g1, .ref g2, .int gn_1, .int lG_1])), (g1, .inl (cI, 6000, .inl fG1_1)), (g2, .inl (cI, 20, .inl fG2_1)), (nL, .inr (5, [.ref aL, .int lu_2])), (aL, .inl (cI, 300, .inl fu_2)), (nM, .inr (5, [.ref aM, .int lM])), (aM, .inl (cI, 300, .inl fM)), (oW, .inr (1, [.ref oC, .ref oK, .ref nw, .ref w1, .ref w2, .ref w3, .ref o7, .ref o8, .ref o9, .ref w4, .ref w5, .ref w6, .ref w7, .int ke, .int tl, .int fsh_3, .int wi, .int ri, .int fm, .int lm]))] H := hP
  have hD : va_D A [(oX, .inr (11, [.ref nT, .ref nL, .ref nM, .ref oC, .ref oP, .ref oH, .ref oK, .ref oG, .ref oR, .ref oQ, .ref oW, .int fa])), (oG, .inr (0, [.ref g1, .ref g2, .int gn_1, .int lG_1])), (g1, .inl (cI, 6000, .inl fG1_1)), (g2, .inl (cI, 20, .inl fG2_1)), (nL, .inr (5, [.ref aL, .int lu_2])), (aL, .inl (cI, 300, .inl fu_2)), (nM, .inr (5, [.ref aM, .int lM])), (aM, .inl (cI, 300, .inl fM)), (oW, .inr (1, [.ref oC, .ref oK, .ref nw, .ref w1, .ref w2, .ref w3, .ref o7, .ref o8, .ref o9, .ref w4, .ref w5, .ref w6, .ref w7, .int ke, .int tl, .int fsh_3, .int wi, .int ri, .int fm, .int lm]))] := hD
  refine lv_aload_n hx hb dX11_become_27 rfl (lv_at hl 0 rfl) ?_
  refine va_get (D := (dC, dI)) (ci := 11) (v := .ref nL) (C := RX11) (T := TX11) (N := 12) hx hb hts in_X11 hown hK hP 0 rfl rfl 1 (by decide) (hts (.fieldLink RX11 34 "TextMender" "letters" "LTextMender$Numbers;") (List.mem_of_getElem? (i := 2) rfl)) (fun _ h9 => h9) rfl dX11_become_28 ?_
  have hPc := hP.sub (ws' := [(nL, .inr (5, [.ref aL, .int lu_2]))]) [4] rfl
  have hDc := hD.sub (ws' := [(nL, .inr (5, [.ref aL, .int lu_2]))]) [4] (by decide) rfl
  have hFc := va_free (wc := [(nL, .inr (5, [.ref aL, .int lu_2]))]) hD hS hA [4] rfl
  refine va_calli (va_runV (As := []) (rest := []) ⟨hx, hb, hml, hown, hts⟩ (m_X5_length l dC dI cI cS H.size nL aL lu_2 ) (cwV 0 hts gX11_become_X5_length rfl rfl rfl (by decide +kernel) ⟨Nat.le_of_ble_eq_true rfl, Nat.le_of_ble_eq_true rfl⟩) ⟨fun a U g mk q => by obtain ⟨q0, q1, qP, qK, qD⟩ := q; exact ⟨q0, q1, qP, va_K.moved (u := U) (U := U.calling g mk a) (Vm.Alike.refl U.vm) qK, qD⟩, va_recv hK hPc (ci := 5) (q0 := 0) rfl rfl, fun U hU hW => ⟨rfl, by rw [hU], by rw [hU]; exact hPc, va_K.moved hW.alike hK, hDc.weaken (fun _ _ _ _ => trivial)⟩⟩ rfl rfl hl.1 rfl (lv_room (Nat.le_of_ble_eq_true rfl)) dX11_become_31 ⟨Nat.le_of_ble_eq_true rfl, Nat.le_of_ble_eq_true rfl⟩) hS (fun q _ h => hFc q h) hFc (fun r_4 u t H1 locs ht hvm hw hB hz1 hk1 hS => ?_)
  subst hw
  obtain ⟨hP1, hD1, hf4_0⟩ := hB
  rw [ht] at hP1
  obtain ⟨hP, hD⟩ := va_join (wr := [(oX, .inr (11, [.ref nT, .ref nL, .ref nM, .ref oC, .ref oP, .ref oH, .ref oK, .ref oG, .ref oR, .ref oQ, .ref oW, .int fa])), (oG, .inr (0, [.ref g1, .ref g2, .int gn_1, .int lG_1])), (g1, .inl (cI, 6000, .inl fG1_1)), (g2, .inl (cI, 20, .inl fG2_1)), (aL, .inl (cI, 300, .inl fu_2)), (nM, .inr (5, [.ref aM, .int lM])), (aM, .inl (cI, 300, .inl fM)), (oW, .inr (1, [.ref oC, .ref oK, .ref nw, .ref w1, .ref w2, .ref w3, .ref o7, .ref o8, .ref o9, .ref w4, .ref w5, .ref w6, .ref w7, .int ke, .int tl, .int fsh_3, .int wi, .int ri, .int fm, .int lm]))]) (w1 := [(nL, .inr (5, [.ref aL, .int lu_2]))]) hP hD [4] [0, 1, 2, 3, 5, 6, 7, 8] rfl rfl (by decide) (by decide) hk1 hFc hP1 hD1
  generalize H1 = H at hP hS ⊢
  have hP : va_P (dC, dI) vwCl [(oX, .inr (11, [.ref nT, .ref nL, .ref nM, .ref oC, .ref oP, .ref oH, .ref oK, .ref oG, .ref oR, .ref oQ, .ref oW, .int fa])), (oG, .inr (0, [.ref g1, .ref g2, .int gn_1, .int lG_1])), (g1, .inl (cI, 6000, .inl fG1_1)), (g2, .inl (cI, 20, .inl fG2_1)), (aL, .inl (cI, 300, .inl fu_2)), (nM, .inr (5, [.ref aM, .int lM])), (aM, .inl (cI, 300, .inl fM)), (oW, .inr (1, [.ref oC, .ref oK, .ref nw, .ref w1, .ref w2, .ref w3, .ref o7, .ref o8, .ref o9, .ref w4, .ref w5, .ref w6, .ref w7, .int ke, .int tl, .int fsh_3, .int wi, .int ri, .int fm, .int lm])), (nL, .inr (5, [.ref aL, .int lu_2]))] H := hP
  have hD : va_D A [(oX, .inr (11, [.ref nT, .ref nL, .ref nM, .ref oC, .ref oP, .ref oH, .ref oK, .ref oG, .ref oR, .ref oQ, .ref oW, .int fa])), (oG, .inr (0, [.ref g1, .ref g2, .int gn_1, .int lG_1])), (g1, .inl (cI, 6000, .inl fG1_1)), (g2, .inl (cI, 20, .inl fG2_1)), (aL, .inl (cI, 300, .inl fu_2)), (nM, .inr (5, [.ref aM, .int lM])), (aM, .inl (cI, 300, .inl fM)), (oW, .inr (1, [.ref oC, .ref oK, .ref nw, .ref w1, .ref w2, .ref w3, .ref o7, .ref o8, .ref o9, .ref w4, .ref w5, .ref w6, .ref w7, .int ke, .int tl, .int fsh_3, .int wi, .int ri, .int fm, .int lm])), (nL, .inr (5, [.ref aL, .int lu_2]))] := hD
  rw [hf4_0]
  have hP9 := hP.sub (ws' := [(oX, .inr (11, [.ref nT, .ref nL, .ref nM, .ref oC, .ref oP, .ref oH, .ref oK, .ref oG, .ref oR, .ref oQ, .ref oW, .int fa])), (nL, .inr (5, [.ref aL, .int lu_2])), (aL, .inl (cI, 300, .inl fu_2)), (nM, .inr (5, [.ref aM, .int lM])), (aM, .inl (cI, 300, .inl fM)), (oG, .inr (0, [.ref g1, .ref g2, .int gn_1, .int lG_1])), (g1, .inl (cI, 6000, .inl fG1_1)), (g2, .inl (cI, 20, .inl fG2_1)), (oW, .inr (1, [.ref oC, .ref oK, .ref nw, .ref w1, .ref w2, .ref w3, .ref o7, .ref o8, .ref o9, .ref w4, .ref w5, .ref w6, .ref w7, .int ke, .int tl, .int fsh_3, .int wi, .int ri, .int fm, .int lm]))]) [0, 8, 4, 5, 6, 1, 2, 3, 7] rfl
  have hD9 := hD.sub (ws' := [(oX, .inr (11, [.ref nT, .ref nL, .ref nM, .ref oC, .ref oP, .ref oH, .ref oK, .ref oG, .ref oR, .ref oQ, .ref oW, .int fa])), (nL, .inr (5, [.ref aL, .int lu_2])), (aL, .inl (cI, 300, .inl fu_2)), (nM, .inr (5, [.ref aM, .int lM])), (aM, .inl (cI, 300, .inl fM)), (oG, .inr (0, [.ref g1, .ref g2, .int gn_1, .int lG_1])), (g1, .inl (cI, 6000, .inl fG1_1)), (g2, .inl (cI, 20, .inl fG2_1)), (oW, .inr (1, [.ref oC, .ref oK, .ref nw, .ref w1, .ref w2, .ref w3, .ref o7, .ref o8, .ref o9, .ref w4, .ref w5, .ref w6, .ref w7, .int ke, .int tl, .int fsh_3, .int wi, .int ri, .int fm, .int lm]))]) [0, 8, 4, 5, 6, 1, 2, 3, 7] (by decide) rfl
  rw [hQQ]
  exact W.iret (v := lu_2) hx hb hr (fun t ht hW => ⟨⟨lu_2, lu_2, rfl, rfl, ⟨lu_2, fu_2, fsh_3, gn_1, lG_1, fG1_1, fG2_1, by rw [ht]; exact hP9, hD9, by omega, by omega, by omega, by omega, hf1_2, by show lu_2.toInt = lM.toInt; omega, ⟨hf1_3, (addAll_cp hf2_2 (by omega) (by omega)).1, (addAll_cp hf2_2 (by omega) (by omega)).2⟩, hf3_1⟩⟩, hS.F ht⟩) hS.2.2 dX11_become_34

def tbk (i b : Int) (l : Int32) (f f1 : Nat → Int32) : Prop := l.toInt = i ∧ ∀ j : Nat, (j : Int) < i → f j = f1 (b.toNat + j)
theorem tbk_s {b : Int} {i i' l l' r a x : Int32} {f f' f1 : Nat → Int32} (h : tbk i.toInt b l f f1) (ex : x = f1 a.toNatClampNeg) (ha : F_add 300 l l' r f f' x) (hi : 0 ≤ i.toInt) (h3 : i.toInt < 300) (hb : 0 ≤ b) (hx : a.toInt = b + i.toInt) (hi' : i'.toInt = i.toInt + 1) : tbk i'.toInt b l' f' f1 := by
  obtain ⟨a1, a2⟩ := h
  have c : l.toNatClampNeg = i.toInt.toNat := ix_eq (by omega)
  have ca : a.toNatClampNeg = b.toNat + i.toInt.toNat := ix_eq (by omega)
  refine ⟨by rw [F_add_l ha (by omega)]; omega, fun j hj => ?_⟩
  rw [F_add_f ha (by omega), c]
  by_cases z : j = i.toInt.toNat
  · rw [z, pk_us, ex, ca]
  · rw [pk_un z]; exact a2 j (by omega)
theorem tb_of {r gn gn' lG lG' l l' i x : Int32} {f1 f2 f f' : Nat → Int32} (hr : r.toInt = 1) (h1 : 1 ≤ lG.toInt) (h2 : lG'.toInt = lG.toInt - 1) (h3 : gn'.toInt = (gn.toInt + 19) % 20) (h4 : 0 ≤ gn'.toInt) (ex : x = f2 gn'.toNatClampNeg) (h : tbk i.toInt (300 * gn'.toInt) l' f' f1) (hi : i.toInt = x.toInt) : F_tbC r gn gn' lG lG' l l' f1 f2 f f' := by
  have c := v_clamp h4
  refine Or.inl ⟨hr, h1, h2, h3, by rw [h.1, ← ex]; exact hi, fun j hj => ?_⟩
  have q := h.2 j (by rw [← h.1]; exact hj)
  have e : (300 * gn'.toInt).toNat = 300 * gn'.toNatClampNeg := by omega
  rw [e] at q
  exact q

set_option maxHeartbeats 40000000 in
set_option maxRecDepth 100000 in
theorem f_X0_takeBack (l : Launch) (dC : Nat → ClassId) (dI : Nat → Nat → Nat) (cI cS : ClassId) (sz : Nat) (oG : Nat) (nd : Nat) (g1 : Nat) (g2 : Nat) (ad : Nat) (gn : Int32) (lG : Int32) (fG1 : Nat → Int32) (fG2 : Nat → Int32) (ld : Int32) (fd : Nat → Int32) (g_gn : 0 ≤ gn.toInt ∧ gn.toInt ≤ 19) (g_lG : 0 ≤ lG.toInt ∧ lG.toInt ≤ 20) (g_fG2 : rg 0 300 fG2) (g_ld : 0 ≤ ld.toInt ∧ ld.toInt ≤ 300) : Met l yX0_takeBack wsX0_takeBack ({ frames := 1, cells := 0, slots := 0, locals := 21 } : Room) (va_Pc [.ref oG, .ref nd] (fun U => U.heap.size = sz ∧ va_P (dC, dI) vwCl [(oG, .inr (0, [.ref g1, .ref g2, .int gn, .int lG])), (g1, .inl (cI, 6000, .inl fG1)), (g2, .inl (cI, 20, .inl fG2)), (nd, .inr (5, [.ref ad, .int ld])), (ad, .inl (cI, 300, .inl fd))] U.heap ∧ va_K (dC, dI) vwCl [(cI, .int), (cS, .short)] U ∧ va_D (fun _ => True) [(oG, .inr (0, [.ref g1, .ref g2, .int gn, .int lG])), (g1, .inl (cI, 6000, .inl fG1)), (g2, .inl (cI, 20, .inl fG2)), (nd, .inr (5, [.ref ad, .int ld])), (ad, .inl (cI, 300, .inl fd))])) (va_Qi (fun (r : Int32) (u : Int32) => r = u) (fun (r : Int32) t => ∃ (gn' : Int32) (lG' : Int32) (ld' : Int32) (fd' : Nat → Int32), va_P (dC, dI) vwCl [(oG, .inr (0, [.ref g1, .ref g2, .int gn', .int lG'])), (g1, .inl (cI, 6000, .inl fG1)), (g2, .inl (cI, 20, .inl fG2)), (nd, .inr (5, [.ref ad, .int ld'])), (ad, .inl (cI, 300, .inl fd'))] t.heap ∧ va_D (va_A [(oG, .inr (0, [.ref g1, .ref g2, .int gn, .int lG])), (g1, .inl (cI, 6000, .inl fG1)), (g2, .inl (cI, 20, .inl fG2)), (nd, .inr (5, [.ref ad, .int ld])), (ad, .inl (cI, 300, .inl fd))] sz) [(oG, .inr (0, [.ref g1, .ref g2, .int gn', .int lG'])), (g1, .inl (cI, 6000, .inl fG1)), (g2, .inl (cI, 20, .inl fG2)), (nd, .inr (5, [.ref ad, .int ld'])), (ad, .inl (cI, 300, .inl fd'))] ∧ (0 ≤ gn'.toInt ∧ gn'.toInt ≤ 19) ∧ (0 ≤ lG'.toInt ∧ lG'.toInt ≤ 20) ∧ (0 ≤ ld'.toInt ∧ ld'.toInt ≤ 300) ∧ (0 ≤ r.toInt ∧ r.toInt ≤ 1) ∧ (F_tbC r gn gn' lG lG' ld ld' fG1 fG2 fd fd')) (va_A [(oG, .inr (0, [.ref g1, .ref g2, .int gn, .int lG])), (g1, .inl (cI, 6000, .inl fG1)), (g2, .inl (cI, 20, .inl fG2)), (nd, .inr (5, [.ref ad, .int ld])), (ad, .inl (cI, 300, .inl fd))] sz)) 0 0 (va_A [(oG, .inr (0, [.ref g1, .ref g2, .int gn, .int lG])), (g1, .inl (cI, 6000, .inl fG1)), (g2, .inl (cI, 20, .inl fG2)), (nd, .inr (5, [.ref ad, .int ld])), (ad, .inl (cI, 300, .inl fd))] sz) := by
  refine Met.ofW (cc := cX0_takeBack) (maxL := 3) (ret := (some .boolean)) (by decide) rfl ?_
  intro p e s m args below meth c s₁ B hml hv
  obtain ⟨rfl, hsz, hP, hK, hD0⟩ := hv
  have hx := B.exec
  have hb := B.bytes
  have hr := B.returns
  have hts := atoms_spec (ws := wsX0_takeBack) B.pre
  have hown : s.vm.findClass RX0 = some m.cls := findClass_of_methodNamed B.named
  have hlocks := B.notSynchronized
  have in_X0 : ∀ w ∈ wsX00, w ∈ wsX0_takeBack := fun _ h => List.mem_cons_of_mem _ (List.mem_append_left _ (List.mem_append_right _ (h)))
  subst hsz
  have hD := hD0.self (sz := s.heap.size)
  generalize hAe : va_A [(oG, .inr (0, [.ref g1, .ref g2, .int gn, .int lG])), (g1, .inl (cI, 6000, .inl fG1)), (g2, .inl (cI, 20, .inl fG2)), (nd, .inr (5, [.ref ad, .int ld])), (ad, .inl (cI, 300, .inl fd))] s.heap.size = A at hD ⊢
  have hA : ∀ q : Nat, s.heap.size ≤ q → A q := fun q h => by rw [← hAe]; exact Or.inr h
  have hS : va_S A s.heap s.heap [] := va_S.rf
  have hP : va_P (dC, dI) vwCl [(oG, .inr (0, [.ref g1, .ref g2, .int gn, .int lG])), (g1, .inl (cI, 6000, .inl fG1)), (g2, .inl (cI, 20, .inl fG2)), (nd, .inr (5, [.ref ad, .int ld])), (ad, .inl (cI, 300, .inl fd))] s.heap := hP
  have hl := lv_entry ([.ref oG, .ref nd]) (n := 3) (Nat.le_of_ble_eq_true rfl)
  rw [lg_entry_eq]
  generalize (lg_sl ([.ref oG, .ref nd]) ++ List.replicate (3 - (lg_sl ([.ref oG, .ref nd])).length) Slot.unset).toArray = ls at hl ⊢
  have hl : lv_has ls 3 [(0, .ref oG), (1, .ref nd)] := hl
  obtain ⟨QQ, hQQ⟩ : ∃ QQ : Array Value → State → Outcome → State → Prop, QQ = va_Qi (fun (r : Int32) (u : Int32) => r = u) (fun (r : Int32) t => ∃ (gn' : Int32) (lG' : Int32) (ld' : Int32) (fd' : Nat → Int32), va_P (dC, dI) vwCl [(oG, .inr (0, [.ref g1, .ref g2, .int gn', .int lG'])), (g1, .inl (cI, 6000, .inl fG1)), (g2, .inl (cI, 20, .inl fG2)), (nd, .inr (5, [.ref ad, .int ld'])), (ad, .inl (cI, 300, .inl fd'))] t.heap ∧ va_D A [(oG, .inr (0, [.ref g1, .ref g2, .int gn', .int lG'])), (g1, .inl (cI, 6000, .inl fG1)), (g2, .inl (cI, 20, .inl fG2)), (nd, .inr (5, [.ref ad, .int ld'])), (ad, .inl (cI, 300, .inl fd'))] ∧ (0 ≤ gn'.toInt ∧ gn'.toInt ≤ 19) ∧ (0 ≤ lG'.toInt ∧ lG'.toInt ≤ 20) ∧ (0 ≤ ld'.toInt ∧ ld'.toInt ≤ 300) ∧ (0 ≤ r.toInt ∧ r.toInt ≤ 1) ∧ (F_tbC r gn gn' lG lG' ld ld' fG1 fG2 fd fd')) A := ⟨_, rfl⟩
  rw [← hQQ]
  have z19 : (19 : Int32).toInt = 19 := rfl
  have z0 : (0 : Int32).toInt = 0 := rfl
  refine lv_aload_n hx hb dX0_takeBack_0 rfl (lv_at hl 0 rfl) ?_
  refine va_get (D := (dC, dI)) (ci := 0) (v := .int lG) (C := RX0) (T := TX0) (N := 4) hx hb hts in_X0 hown hK hP 0 rfl rfl 3 (by decide) (hts (.fieldLink RX0 22 "TextMender$Changes" "length" "I") (List.mem_of_getElem? (i := 1) rfl)) (fun _ h9 => h9) rfl dX0_takeBack_1 ?_
  refine lv_if_ne (tgt := 9) hx hb dX0_takeBack_4 (by decide) (fun c_1 => ?_) (fun c_1 => ?_)
  · have tc_1 : ¬ lG.toInt = 0 := v_ne c_1
    refine lv_aload_n hx hb dX0_takeBack_9 rfl (lv_at hl 0 rfl) ?_
    refine lv_aload_n hx hb dX0_takeBack_10 rfl (lv_at hl 0 rfl) ?_
    refine va_get (D := (dC, dI)) (ci := 0) (v := .int gn) (C := RX0) (T := TX0) (N := 4) hx hb hts in_X0 hown hK hP 0 rfl rfl 2 (by decide) (hts (.fieldLink RX0 18 "TextMender$Changes" "next" "I") (List.mem_of_getElem? (i := 2) rfl)) (fun _ h9 => h9) rfl dX0_takeBack_11 ?_
    refine lv_if_ne (tgt := 22) hx hb dX0_takeBack_14 (by decide) (fun c_2 => ?_) (fun c_2 => ?_)
    · have tc_2 : ¬ gn.toInt = 0 := v_ne c_2
      refine lv_aload_n hx hb dX0_takeBack_22 rfl (lv_at hl 0 rfl) ?_
      refine va_get (D := (dC, dI)) (ci := 0) (v := .int gn) (C := RX0) (T := TX0) (N := 4) hx hb hts in_X0 hown hK hP 0 rfl rfl 2 (by decide) (hts (.fieldLink RX0 18 "TextMender$Changes" "next" "I") (List.mem_of_getElem? (i := 2) rfl)) (fun _ h9 => h9) rfl dX0_takeBack_23 ?_
      refine lv_iconst (v := 1) hx hb dX0_takeBack_26 (by decide) ?_
      refine lv_isub hx hb dX0_takeBack_27 ?_
      refine lv_topi (fun x_3 ex_3 => ?_)
      have tx_3 : x_3.toInt = gn.toInt - 1 := v_sub ex_3 (by show -2147483648 ≤ gn.toInt - 1; omega) (by show gn.toInt - 1 < 2147483648; omega)
      refine va_put (D := (dC, dI)) (ci := 0) (v := .int x_3) (ty := .int) (C := RX0) (T := TX0) (N := 4) hx hb hts in_X0 tyX0 tyX0_ok nmX0 hown hK hP hD hS 0 rfl rfl 2 (by decide) (hts (.fieldLink RX0 18 "TextMender$Changes" "next" "I") (List.mem_of_getElem? (i := 2) rfl)) (fun _ h9 => h9) rfl (by decide +kernel) rfl rfl (Nat.le_of_ble_eq_true rfl) dX0_takeBack_28 (fun H locs hP hD hS => ?_)
      have hP : va_P (dC, dI) vwCl [(oG, .inr (0, [.ref g1, .ref g2, .int x_3, .int lG])), (g1, .inl (cI, 6000, .inl fG1)), (g2, .inl (cI, 20, .inl fG2)), (nd, .inr (5, [.ref ad, .int ld])), (ad, .inl (cI, 300, .inl fd))] H := hP
      have hD : va_D A [(oG, .inr (0, [.ref g1, .ref g2, .int x_3, .int lG])), (g1, .inl (cI, 6000, .inl fG1)), (g2, .inl (cI, 20, .inl fG2)), (nd, .inr (5, [.ref ad, .int ld])), (ad, .inl (cI, 300, .inl fd))] := hD
      refine lv_aload_n hx hb dX0_takeBack_31 rfl (lv_at hl 0 rfl) ?_
      refine lv_dup hx hb dX0_takeBack_32 rfl ?_
      refine va_get (D := (dC, dI)) (ci := 0) (v := .int lG) (C := RX0) (T := TX0) (N := 4) hx hb hts in_X0 hown hK hP 0 rfl rfl 3 (by decide) (hts (.fieldLink RX0 22 "TextMender$Changes" "length" "I") (List.mem_of_getElem? (i := 1) rfl)) (fun _ h9 => h9) rfl dX0_takeBack_33 ?_
      refine lv_iconst (v := 1) hx hb dX0_takeBack_36 (by decide) ?_
      refine lv_isub hx hb dX0_takeBack_37 ?_
      refine lv_topi (fun x_4 ex_4 => ?_)
      have tx_4 : x_4.toInt = lG.toInt - 1 := v_sub ex_4 (by show -2147483648 ≤ lG.toInt - 1; omega) (by show lG.toInt - 1 < 2147483648; omega)
      refine va_put (D := (dC, dI)) (ci := 0) (v := .int x_4) (ty := .int) (C := RX0) (T := TX0) (N := 4) hx hb hts in_X0 tyX0 tyX0_ok nmX0 hown hK hP hD hS 0 rfl rfl 3 (by decide) (hts (.fieldLink RX0 22 "TextMender$Changes" "length" "I") (List.mem_of_getElem? (i := 1) rfl)) (fun _ h9 => h9) rfl (by decide +kernel) rfl rfl (Nat.le_of_ble_eq_true rfl) dX0_takeBack_38 (fun H locs hP hD hS => ?_)
      have hP : va_P (dC, dI) vwCl [(oG, .inr (0, [.ref g1, .ref g2, .int x_3, .int x_4])), (g1, .inl (cI, 6000, .inl fG1)), (g2, .inl (cI, 20, .inl fG2)), (nd, .inr (5, [.ref ad, .int ld])), (ad, .inl (cI, 300, .inl fd))] H := hP
      have hD : va_D A [(oG, .inr (0, [.ref g1, .ref g2, .int x_3, .int x_4])), (g1, .inl (cI, 6000, .inl fG1)), (g2, .inl (cI, 20, .inl fG2)), (nd, .inr (5, [.ref ad, .int ld])), (ad, .inl (cI, 300, .inl fd))] := hD
      refine lv_aload_n hx hb dX0_takeBack_41 rfl (lv_at hl 1 rfl) ?_
      refine lv_iconst (v := 0) hx hb dX0_takeBack_42 (by decide) ?_
      have hPc := hP.sub (ws' := [(nd, .inr (5, [.ref ad, .int ld]))]) [3] rfl
      have hDc := hD.sub (ws' := [(nd, .inr (5, [.ref ad, .int ld]))]) [3] (by decide) rfl
      have hFc := va_free (wc := [(nd, .inr (5, [.ref ad, .int ld]))]) hD hS hA [3] rfl
      refine va_callv (va_runV (As := [.int 0]) (rest := []) ⟨hx, hb, hml, hown, hts⟩ (m_X5_cut l dC dI cI cS H.size nd ad ld 0 (by omega)) (cwV 1 hts gX0_takeBack_X5_cut rfl rfl rfl (by decide +kernel) ⟨Nat.le_of_ble_eq_true rfl, Nat.le_of_ble_eq_true rfl⟩) ⟨fun a U g mk q => by obtain ⟨q0, q1, qP, qK, qD⟩ := q; exact ⟨q0, q1, qP, va_K.moved (u := U) (U := U.calling g mk a) (Vm.Alike.refl U.vm) qK, qD⟩, va_recv hK hPc (ci := 5) (q0 := 0) rfl rfl, fun U hU hW => ⟨rfl, by rw [hU], by rw [hU]; exact hPc, va_K.moved hW.alike hK, hDc.weaken (fun _ _ _ _ => trivial)⟩⟩ rfl rfl hl.1 rfl (lv_room (Nat.le_of_ble_eq_true rfl)) dX0_takeBack_43 ⟨Nat.le_of_ble_eq_true rfl, Nat.le_of_ble_eq_true rfl⟩) hS (fun q _ h => hFc q h) hFc (fun u t H1 locs ht hvm hw hB hz1 hk1 hS => ?_)
      obtain ⟨lu_5, hP1, hD1, hf5_0, hf5_1, hf5_2⟩ := hB
      rw [ht] at hP1
      obtain ⟨hP, hD⟩ := va_join (wr := [(oG, .inr (0, [.ref g1, .ref g2, .int x_3, .int x_4])), (g1, .inl (cI, 6000, .inl fG1)), (g2, .inl (cI, 20, .inl fG2)), (ad, .inl (cI, 300, .inl fd))]) (w1 := [(nd, .inr (5, [.ref ad, .int lu_5]))]) hP hD [3] [0, 1, 2, 4] rfl rfl (by decide) (by decide) hk1 hFc hP1 hD1
      generalize H1 = H at hP hS ⊢
      have hP : va_P (dC, dI) vwCl [(oG, .inr (0, [.ref g1, .ref g2, .int x_3, .int x_4])), (g1, .inl (cI, 6000, .inl fG1)), (g2, .inl (cI, 20, .inl fG2)), (ad, .inl (cI, 300, .inl fd)), (nd, .inr (5, [.ref ad, .int lu_5]))] H := hP
      have hD : va_D A [(oG, .inr (0, [.ref g1, .ref g2, .int x_3, .int x_4])), (g1, .inl (cI, 6000, .inl fG1)), (g2, .inl (cI, 20, .inl fG2)), (ad, .inl (cI, 300, .inl fd)), (nd, .inr (5, [.ref ad, .int lu_5]))] := hD
      have ha5 : lu_5.toInt = 0 := F_cut_l hf5_2 (by first | decide | omega) (by first | omega | (show (0 : Int) ≤ _; omega))
      refine lv_iconst (v := 0) hx hb dX0_takeBack_46 (by decide) ?_
      refine lv_istore_n (lv' := [(2, .int 0), (0, .ref oG), (1, .ref nd)]) hx hb dX0_takeBack_47 rfl hl (by decide) rfl (fun ls hl => ?_)
      have LOOP_48 : ∀ (k_48 : Nat) (i : Int32) (l2 : Int32) (f2 : Nat → Int32) (H : Heap) (locs : List Loc) (ls : Array Slot), (300 - i.toInt : Int).toNat < k_48 → (0 ≤ i.toInt ∧ i.toInt ≤ 300) → (0 ≤ l2.toInt ∧ l2.toInt ≤ 300) → (tbk i.toInt (300 * x_3.toInt) l2 f2 fG1) → (i.toInt ≤ (fG2 (x_3 : Int32).toNatClampNeg).toInt) → va_P (dC, dI) vwCl [(oG, .inr (0, [.ref g1, .ref g2, .int x_3, .int x_4])), (g1, .inl (cI, 6000, .inl fG1)), (g2, .inl (cI, 20, .inl fG2)), (ad, .inl (cI, 300, .inl f2)), (nd, .inr (5, [.ref ad, .int l2]))] H → va_D A [(oG, .inr (0, [.ref g1, .ref g2, .int x_3, .int x_4])), (g1, .inl (cI, 6000, .inl fG1)), (g2, .inl (cI, 20, .inl fG2)), (ad, .inl (cI, 300, .inl f2)), (nd, .inr (5, [.ref ad, .int l2]))] → va_S A s.heap H locs → lv_has ls 3 [(2, .int i), (0, .ref oG), (1, .ref nd)] → W p l e (headSpec wsX0_takeBack ({ frames := 1, cells := 0, slots := 0, locals := 21 } : Room)).room s m ([.ref oG, .ref nd] : List Value).toArray below meth c H locs 0 0 (MQ below QQ ([.ref oG, .ref nd] : List Value).toArray s 0 0 A) (F0 m 48 ls []) := by
        intro k_48
        induction k_48 with
        | zero =>
          intro i l2 f2 H locs ls hm_48 g_i g_l2 htb hib hP hD hS hl
          exact absurd hm_48 (Nat.not_lt_zero _)
        | succ k_48 ih_48 =>
          intro i l2 f2 H locs ls hm_48 g_i g_l2 htb hib hP hD hS hl
          refine lv_iload_n hx hb dX0_takeBack_48 rfl (lv_at hl 0 rfl) ?_
          refine lv_aload_n hx hb dX0_takeBack_49 rfl (lv_at hl 1 rfl) ?_
          refine va_get (D := (dC, dI)) (ci := 0) (v := .ref g2) (C := RX0) (T := TX0) (N := 4) hx hb hts in_X0 hown hK hP 0 rfl rfl 1 (by decide) (hts (.fieldLink RX0 15 "TextMender$Changes" "keptLength" "[I") (List.mem_of_getElem? (i := 3) rfl)) (fun _ h9 => h9) rfl dX0_takeBack_50 ?_
          refine lv_aload_n hx hb dX0_takeBack_53 rfl (lv_at hl 1 rfl) ?_
          refine va_get (D := (dC, dI)) (ci := 0) (v := .int x_3) (C := RX0) (T := TX0) (N := 4) hx hb hts in_X0 hown hK hP 0 rfl rfl 2 (by decide) (hts (.fieldLink RX0 18 "TextMender$Changes" "next" "I") (List.mem_of_getElem? (i := 2) rfl)) (fun _ h9 => h9) rfl dX0_takeBack_54 ?_
          refine va_iald hx hb hK hP 2 0 rfl rfl (v_in (by omega)) dX0_takeBack_57 ?_
          refine lv_topi (fun x_6 ex_6 => ?_)
          have tx_6 : 0 ≤ x_6.toInt ∧ x_6.toInt ≤ 300 := rg_at g_fG2 ex_6
          refine lv_icmp_ge (tgt := 87) hx hb dX0_takeBack_58 (by decide) (fun c_7 => ?_) (fun c_7 => ?_)
          · have tc_7 : x_6.toInt ≤ i.toInt := v_le c_7
            refine lv_iconst (v := 1) hx hb dX0_takeBack_87 (by decide) ?_
            have hP9 := hP.sub (ws' := [(oG, .inr (0, [.ref g1, .ref g2, .int x_3, .int x_4])), (g1, .inl (cI, 6000, .inl fG1)), (g2, .inl (cI, 20, .inl fG2)), (nd, .inr (5, [.ref ad, .int l2])), (ad, .inl (cI, 300, .inl f2))]) [0, 1, 2, 4, 3] rfl
            have hD9 := hD.sub (ws' := [(oG, .inr (0, [.ref g1, .ref g2, .int x_3, .int x_4])), (g1, .inl (cI, 6000, .inl fG1)), (g2, .inl (cI, 20, .inl fG2)), (nd, .inr (5, [.ref ad, .int l2])), (ad, .inl (cI, 300, .inl f2))]) [0, 1, 2, 4, 3] (by decide) rfl
            rw [hQQ]
            exact W.zret (v := 1) (ty := .boolean) hx hb hr (rfl) (fun t ht hW => ⟨⟨1, 1, rfl, rfl, ⟨x_3, x_4, l2, f2, by rw [ht]; exact hP9, hD9, by omega, by omega, by omega, by decide, tb_of rfl (by omega) (by omega) (by have e19 : (19 : Int32).toInt = 19 := rfl; omega) (by have e19 : (19 : Int32).toInt = 19 := rfl; omega) ex_6 htb (by have q9 := v_eq ex_6; omega)⟩⟩, hS.F ht⟩) hS.2.2 dX0_takeBack_88
          · have tc_7 : i.toInt < x_6.toInt := v_nle c_7
            refine lv_aload_n hx hb dX0_takeBack_61 rfl (lv_at hl 2 rfl) ?_
            refine lv_aload_n hx hb dX0_takeBack_62 rfl (lv_at hl 1 rfl) ?_
            refine va_get (D := (dC, dI)) (ci := 0) (v := .ref g1) (C := RX0) (T := TX0) (N := 4) hx hb hts in_X0 hown hK hP 0 rfl rfl 0 (by decide) (hts (.fieldLink RX0 11 "TextMender$Changes" "kept" "[I") (List.mem_of_getElem? (i := 4) rfl)) (fun _ h9 => h9) rfl dX0_takeBack_63 ?_
            refine lv_aload_n hx hb dX0_takeBack_66 rfl (lv_at hl 1 rfl) ?_
            refine va_get (D := (dC, dI)) (ci := 0) (v := .int x_3) (C := RX0) (T := TX0) (N := 4) hx hb hts in_X0 hown hK hP 0 rfl rfl 2 (by decide) (hts (.fieldLink RX0 18 "TextMender$Changes" "next" "I") (List.mem_of_getElem? (i := 2) rfl)) (fun _ h9 => h9) rfl dX0_takeBack_67 ?_
            refine lv_sipush (v := 300) hx hb dX0_takeBack_70 (by decide) ?_
            refine lv_imul hx hb dX0_takeBack_73 ?_
            refine lv_topi (fun x_8 ex_8 => ?_)
            have tx_8 : x_8.toInt = x_3.toInt * 300 := v_mul ex_8 (by show -2147483648 ≤ x_3.toInt * 300; omega) (by show x_3.toInt * 300 < 2147483648; omega)
            refine lv_iload_n hx hb dX0_takeBack_74 rfl (lv_at hl 0 rfl) ?_
            refine lv_iadd hx hb dX0_takeBack_75 ?_
            refine lv_topi (fun x_9 ex_9 => ?_)
            have tx_9 : x_9.toInt = x_8.toInt + i.toInt := v_add ex_9 (by show -2147483648 ≤ x_8.toInt + i.toInt; omega) (by show x_8.toInt + i.toInt < 2147483648; omega)
            refine va_iald hx hb hK hP 1 0 rfl rfl (v_in (by omega)) dX0_takeBack_76 ?_
            refine lv_topi (fun x_10 ex_10 => ?_)
            have hPc := hP.sub (ws' := [(nd, .inr (5, [.ref ad, .int l2])), (ad, .inl (cI, 300, .inl f2))]) [4, 3] rfl
            have hDc := hD.sub (ws' := [(nd, .inr (5, [.ref ad, .int l2])), (ad, .inl (cI, 300, .inl f2))]) [4, 3] (by decide) rfl
            have hFc := va_free (wc := [(nd, .inr (5, [.ref ad, .int l2])), (ad, .inl (cI, 300, .inl f2))]) hD hS hA [4, 3] rfl
            refine va_calli (va_runV (As := [.int x_10]) (rest := []) ⟨hx, hb, hml, hown, hts⟩ (m_X5_add l dC dI cI cS H.size nd ad 300 l2 f2 x_10 (by omega) (by omega)) (cwV 1 hts gX0_takeBack_X5_add rfl rfl rfl (by decide +kernel) ⟨Nat.le_of_ble_eq_true rfl, Nat.le_of_ble_eq_true rfl⟩) ⟨fun a U g mk q => by obtain ⟨q0, q1, qP, qK, qD⟩ := q; exact ⟨q0, q1, qP, va_K.moved (u := U) (U := U.calling g mk a) (Vm.Alike.refl U.vm) qK, qD⟩, va_recv hK hPc (ci := 5) (q0 := 0) rfl rfl, fun U hU hW => ⟨rfl, by rw [hU], by rw [hU]; exact hPc, va_K.moved hW.alike hK, hDc.weaken (fun _ _ _ _ => trivial)⟩⟩ rfl rfl hl.1 rfl (lv_room (Nat.le_of_ble_eq_true rfl)) dX0_takeBack_77 ⟨Nat.le_of_ble_eq_true rfl, Nat.le_of_ble_eq_true rfl⟩) hS (fun q _ h => hFc q h) hFc (fun r_11 u t H1 locs ht hvm hw hB hz1 hk1 hS => ?_)
            subst hw
            obtain ⟨lu_11, fu_11, hP1, hD1, hf11_0, hf11_1, hf11_2⟩ := hB
            rw [ht] at hP1
            obtain ⟨hP, hD⟩ := va_join (wr := [(oG, .inr (0, [.ref g1, .ref g2, .int x_3, .int x_4])), (g1, .inl (cI, 6000, .inl fG1)), (g2, .inl (cI, 20, .inl fG2))]) (w1 := [(nd, .inr (5, [.ref ad, .int lu_11])), (ad, .inl (cI, 300, .inl fu_11))]) hP hD [4, 3] [0, 1, 2] rfl rfl (by decide) (by decide) hk1 hFc hP1 hD1
            generalize H1 = H at hP hS ⊢
            have hP : va_P (dC, dI) vwCl [(oG, .inr (0, [.ref g1, .ref g2, .int x_3, .int x_4])), (g1, .inl (cI, 6000, .inl fG1)), (g2, .inl (cI, 20, .inl fG2)), (nd, .inr (5, [.ref ad, .int lu_11])), (ad, .inl (cI, 300, .inl fu_11))] H := hP
            have hD : va_D A [(oG, .inr (0, [.ref g1, .ref g2, .int x_3, .int x_4])), (g1, .inl (cI, 6000, .inl fG1)), (g2, .inl (cI, 20, .inl fG2)), (nd, .inr (5, [.ref ad, .int lu_11])), (ad, .inl (cI, 300, .inl fu_11))] := hD
            refine lv_pop hx hb dX0_takeBack_80 rfl ?_
            obtain ⟨x_12, ex_12⟩ : ∃ y : Int32, y = i + 1 := ⟨_, rfl⟩
            have tx_12 : x_12.toInt = i.toInt + 1 := v_add ex_12 (by show -2147483648 ≤ i.toInt + 1; omega) (by show i.toInt + 1 < 2147483648; omega)
            refine lv_iinc (v := x_12) (lv' := [(2, .int x_12), (0, .ref oG), (1, .ref nd)]) hx hb dX0_takeBack_81 hl (k := 0) rfl (by rw [ex_12]; rfl) (by decide) rfl (fun ls hl => ?_)
            refine lv_goto (tgt := 48) hx hb dX0_takeBack_84 (by decide) ?_
            exact ih_48 x_12 lu_11 fu_11 _ _ _ (by have hm9 := hm_48; show ((300 - x_12.toInt : Int)).toNat < k_48; omega) (by show 0 ≤ x_12.toInt ∧ x_12.toInt ≤ 300; omega) (by show 0 ≤ lu_11.toInt ∧ lu_11.toInt ≤ 300; omega) (tbk_s htb ex_10 hf11_2 (by omega) (by omega) (by omega) (by omega) (by omega)) (by have q9 := ex_6; rw [← q9]; omega) (hP.sub [0, 1, 2, 4, 3] rfl) (hD.sub [0, 1, 2, 4, 3] (by decide) rfl) hS (lv_sub hl [0, 1, 2] rfl)
      exact LOOP_48 _ 0 lu_5 fd _ _ _ (Nat.lt_succ_self _) (by decide) (by show 0 ≤ lu_5.toInt ∧ lu_5.toInt ≤ 300; omega) (⟨by omega, fun j hj => absurd hj (by show ¬ (j : Int) < 0; omega)⟩) (by show (0 : Int) ≤ _; exact (g_fG2 _).1) hP hD hS (lv_sub hl [0, 1, 2] rfl)
    · have tc_2 : gn.toInt = 0 := v_eq c_2
      refine lv_bipush (v := 19) hx hb dX0_takeBack_17 (by decide) ?_
      refine lv_goto (tgt := 28) hx hb dX0_takeBack_19 (by decide) ?_
      refine va_put (D := (dC, dI)) (ci := 0) (v := .int 19) (ty := .int) (C := RX0) (T := TX0) (N := 4) hx hb hts in_X0 tyX0 tyX0_ok nmX0 hown hK hP hD hS 0 rfl rfl 2 (by decide) (hts (.fieldLink RX0 18 "TextMender$Changes" "next" "I") (List.mem_of_getElem? (i := 2) rfl)) (fun _ h9 => h9) rfl (by decide +kernel) rfl rfl (Nat.le_of_ble_eq_true rfl) dX0_takeBack_28 (fun H locs hP hD hS => ?_)
      have hP : va_P (dC, dI) vwCl [(oG, .inr (0, [.ref g1, .ref g2, .int 19, .int lG])), (g1, .inl (cI, 6000, .inl fG1)), (g2, .inl (cI, 20, .inl fG2)), (nd, .inr (5, [.ref ad, .int ld])), (ad, .inl (cI, 300, .inl fd))] H := hP
      have hD : va_D A [(oG, .inr (0, [.ref g1, .ref g2, .int 19, .int lG])), (g1, .inl (cI, 6000, .inl fG1)), (g2, .inl (cI, 20, .inl fG2)), (nd, .inr (5, [.ref ad, .int ld])), (ad, .inl (cI, 300, .inl fd))] := hD
      refine lv_aload_n hx hb dX0_takeBack_31 rfl (lv_at hl 0 rfl) ?_
      refine lv_dup hx hb dX0_takeBack_32 rfl ?_
      refine va_get (D := (dC, dI)) (ci := 0) (v := .int lG) (C := RX0) (T := TX0) (N := 4) hx hb hts in_X0 hown hK hP 0 rfl rfl 3 (by decide) (hts (.fieldLink RX0 22 "TextMender$Changes" "length" "I") (List.mem_of_getElem? (i := 1) rfl)) (fun _ h9 => h9) rfl dX0_takeBack_33 ?_
      refine lv_iconst (v := 1) hx hb dX0_takeBack_36 (by decide) ?_
      refine lv_isub hx hb dX0_takeBack_37 ?_
      refine lv_topi (fun x_13 ex_13 => ?_)
      have tx_13 : x_13.toInt = lG.toInt - 1 := v_sub ex_13 (by show -2147483648 ≤ lG.toInt - 1; omega) (by show lG.toInt - 1 < 2147483648; omega)
      refine va_put (D := (dC, dI)) (ci := 0) (v := .int x_13) (ty := .int) (C := RX0) (T := TX0) (N := 4) hx hb hts in_X0 tyX0 tyX0_ok nmX0 hown hK hP hD hS 0 rfl rfl 3 (by decide) (hts (.fieldLink RX0 22 "TextMender$Changes" "length" "I") (List.mem_of_getElem? (i := 1) rfl)) (fun _ h9 => h9) rfl (by decide +kernel) rfl rfl (Nat.le_of_ble_eq_true rfl) dX0_takeBack_38 (fun H locs hP hD hS => ?_)
      have hP : va_P (dC, dI) vwCl [(oG, .inr (0, [.ref g1, .ref g2, .int 19, .int x_13])), (g1, .inl (cI, 6000, .inl fG1)), (g2, .inl (cI, 20, .inl fG2)), (nd, .inr (5, [.ref ad, .int ld])), (ad, .inl (cI, 300, .inl fd))] H := hP
      have hD : va_D A [(oG, .inr (0, [.ref g1, .ref g2, .int 19, .int x_13])), (g1, .inl (cI, 6000, .inl fG1)), (g2, .inl (cI, 20, .inl fG2)), (nd, .inr (5, [.ref ad, .int ld])), (ad, .inl (cI, 300, .inl fd))] := hD
      refine lv_aload_n hx hb dX0_takeBack_41 rfl (lv_at hl 1 rfl) ?_
      refine lv_iconst (v := 0) hx hb dX0_takeBack_42 (by decide) ?_
      have hPc := hP.sub (ws' := [(nd, .inr (5, [.ref ad, .int ld]))]) [3] rfl
      have hDc := hD.sub (ws' := [(nd, .inr (5, [.ref ad, .int ld]))]) [3] (by decide) rfl
      have hFc := va_free (wc := [(nd, .inr (5, [.ref ad, .int ld]))]) hD hS hA [3] rfl
      refine va_callv (va_runV (As := [.int 0]) (rest := []) ⟨hx, hb, hml, hown, hts⟩ (m_X5_cut l dC dI cI cS H.size nd ad ld 0 (by omega)) (cwV 1 hts gX0_takeBack_X5_cut rfl rfl rfl (by decide +kernel) ⟨Nat.le_of_ble_eq_true rfl, Nat.le_of_ble_eq_true rfl⟩) ⟨fun a U g mk q => by obtain ⟨q0, q1, qP, qK, qD⟩ := q; exact ⟨q0, q1, qP, va_K.moved (u := U) (U := U.calling g mk a) (Vm.Alike.refl U.vm) qK, qD⟩, va_recv hK hPc (ci := 5) (q0 := 0) rfl rfl, fun U hU hW => ⟨rfl, by rw [hU], by rw [hU]; exact hPc, va_K.moved hW.alike hK, hDc.weaken (fun _ _ _ _ => trivial)⟩⟩ rfl rfl hl.1 rfl (lv_room (Nat.le_of_ble_eq_true rfl)) dX0_takeBack_43 ⟨Nat.le_of_ble_eq_true rfl, Nat.le_of_ble_eq_true rfl⟩) hS (fun q _ h => hFc q h) hFc (fun u t H1 locs ht hvm hw hB hz1 hk1 hS => ?_)
      obtain ⟨lu_14, hP1, hD1, hf14_0, hf14_1, hf14_2⟩ := hB
      rw [ht] at hP1
      obtain ⟨hP, hD⟩ := va_join (wr := [(oG, .inr (0, [.ref g1, .ref g2, .int 19, .int x_13])), (g1, .inl (cI, 6000, .inl fG1)), (g2, .inl (cI, 20, .inl fG2)), (ad, .inl (cI, 300, .inl fd))]) (w1 := [(nd, .inr (5, [.ref ad, .int lu_14]))]) hP hD [3] [0, 1, 2, 4] rfl rfl (by decide) (by decide) hk1 hFc hP1 hD1
      generalize H1 = H at hP hS ⊢
      have hP : va_P (dC, dI) vwCl [(oG, .inr (0, [.ref g1, .ref g2, .int 19, .int x_13])), (g1, .inl (cI, 6000, .inl fG1)), (g2, .inl (cI, 20, .inl fG2)), (ad, .inl (cI, 300, .inl fd)), (nd, .inr (5, [.ref ad, .int lu_14]))] H := hP
      have hD : va_D A [(oG, .inr (0, [.ref g1, .ref g2, .int 19, .int x_13])), (g1, .inl (cI, 6000, .inl fG1)), (g2, .inl (cI, 20, .inl fG2)), (ad, .inl (cI, 300, .inl fd)), (nd, .inr (5, [.ref ad, .int lu_14]))] := hD
      have ha14 : lu_14.toInt = 0 := F_cut_l hf14_2 (by first | decide | omega) (by first | omega | (show (0 : Int) ≤ _; omega))
      refine lv_iconst (v := 0) hx hb dX0_takeBack_46 (by decide) ?_
      refine lv_istore_n (lv' := [(2, .int 0), (0, .ref oG), (1, .ref nd)]) hx hb dX0_takeBack_47 rfl hl (by decide) rfl (fun ls hl => ?_)
      have LOOP_48 : ∀ (k_48 : Nat) (i : Int32) (l2 : Int32) (f2 : Nat → Int32) (H : Heap) (locs : List Loc) (ls : Array Slot), (300 - i.toInt : Int).toNat < k_48 → (0 ≤ i.toInt ∧ i.toInt ≤ 300) → (0 ≤ l2.toInt ∧ l2.toInt ≤ 300) → (tbk i.toInt (300 * (19 : Int32).toInt) l2 f2 fG1) → (i.toInt ≤ (fG2 (19 : Int32).toNatClampNeg).toInt) → va_P (dC, dI) vwCl [(oG, .inr (0, [.ref g1, .ref g2, .int 19, .int x_13])), (g1, .inl (cI, 6000, .inl fG1)), (g2, .inl (cI, 20, .inl fG2)), (ad, .inl (cI, 300, .inl f2)), (nd, .inr (5, [.ref ad, .int l2]))] H → va_D A [(oG, .inr (0, [.ref g1, .ref g2, .int 19, .int x_13])), (g1, .inl (cI, 6000, .inl fG1)), (g2, .inl (cI, 20, .inl fG2)), (ad, .inl (cI, 300, .inl f2)), (nd, .inr (5, [.ref ad, .int l2]))] → va_S A s.heap H locs → lv_has ls 3 [(2, .int i), (0, .ref oG), (1, .ref nd)] → W p l e (headSpec wsX0_takeBack ({ frames := 1, cells := 0, slots := 0, locals := 21 } : Room)).room s m ([.ref oG, .ref nd] : List Value).toArray below meth c H locs 0 0 (MQ below QQ ([.ref oG, .ref nd] : List Value).toArray s 0 0 A) (F0 m 48 ls []) := by
        intro k_48
        induction k_48 with
        | zero =>
          intro i l2 f2 H locs ls hm_48 g_i g_l2 htb hib hP hD hS hl
          exact absurd hm_48 (Nat.not_lt_zero _)
        | succ k_48 ih_48 =>
          intro i l2 f2 H locs ls hm_48 g_i g_l2 htb hib hP hD hS hl
          refine lv_iload_n hx hb dX0_takeBack_48 rfl (lv_at hl 0 rfl) ?_
          refine lv_aload_n hx hb dX0_takeBack_49 rfl (lv_at hl 1 rfl) ?_
          refine va_get (D := (dC, dI)) (ci := 0) (v := .ref g2) (C := RX0) (T := TX0) (N := 4) hx hb hts in_X0 hown hK hP 0 rfl rfl 1 (by decide) (hts (.fieldLink RX0 15 "TextMender$Changes" "keptLength" "[I") (List.mem_of_getElem? (i := 3) rfl)) (fun _ h9 => h9) rfl dX0_takeBack_50 ?_
          refine lv_aload_n hx hb dX0_takeBack_53 rfl (lv_at hl 1 rfl) ?_
          refine va_get (D := (dC, dI)) (ci := 0) (v := .int 19) (C := RX0) (T := TX0) (N := 4) hx hb hts in_X0 hown hK hP 0 rfl rfl 2 (by decide) (hts (.fieldLink RX0 18 "TextMender$Changes" "next" "I") (List.mem_of_getElem? (i := 2) rfl)) (fun _ h9 => h9) rfl dX0_takeBack_54 ?_
          refine va_iald hx hb hK hP 2 0 rfl rfl (by unfold vp_in; decide) dX0_takeBack_57 ?_
          refine lv_topi (fun x_15 ex_15 => ?_)
          have tx_15 : 0 ≤ x_15.toInt ∧ x_15.toInt ≤ 300 := rg_at g_fG2 ex_15
          refine lv_icmp_ge (tgt := 87) hx hb dX0_takeBack_58 (by decide) (fun c_16 => ?_) (fun c_16 => ?_)
          · have tc_16 : x_15.toInt ≤ i.toInt := v_le c_16
            refine lv_iconst (v := 1) hx hb dX0_takeBack_87 (by decide) ?_
            have hP9 := hP.sub (ws' := [(oG, .inr (0, [.ref g1, .ref g2, .int 19, .int x_13])), (g1, .inl (cI, 6000, .inl fG1)), (g2, .inl (cI, 20, .inl fG2)), (nd, .inr (5, [.ref ad, .int l2])), (ad, .inl (cI, 300, .inl f2))]) [0, 1, 2, 4, 3] rfl
            have hD9 := hD.sub (ws' := [(oG, .inr (0, [.ref g1, .ref g2, .int 19, .int x_13])), (g1, .inl (cI, 6000, .inl fG1)), (g2, .inl (cI, 20, .inl fG2)), (nd, .inr (5, [.ref ad, .int l2])), (ad, .inl (cI, 300, .inl f2))]) [0, 1, 2, 4, 3] (by decide) rfl
            rw [hQQ]
            exact W.zret (v := 1) (ty := .boolean) hx hb hr (rfl) (fun t ht hW => ⟨⟨1, 1, rfl, rfl, ⟨19, x_13, l2, f2, by rw [ht]; exact hP9, hD9, by decide, by omega, by omega, by decide, tb_of rfl (by omega) (by omega) (by have e19 : (19 : Int32).toInt = 19 := rfl; omega) (by have e19 : (19 : Int32).toInt = 19 := rfl; omega) ex_15 htb (by have q9 := v_eq ex_15; omega)⟩⟩, hS.F ht⟩) hS.2.2 dX0_takeBack_88
          · have tc_16 : i.toInt < x_15.toInt := v_nle c_16
            refine lv_aload_n hx hb dX0_takeBack_61 rfl (lv_at hl 2 rfl) ?_
            refine lv_aload_n hx hb dX0_takeBack_62 rfl (lv_at hl 1 rfl) ?_
            refine va_get (D := (dC, dI)) (ci := 0) (v := .ref g1) (C := RX0) (T := TX0) (N := 4) hx hb hts in_X0 hown hK hP 0 rfl rfl 0 (by decide) (hts (.fieldLink RX0 11 "TextMender$Changes" "kept" "[I") (List.mem_of_getElem? (i := 4) rfl)) (fun _ h9 => h9) rfl dX0_takeBack_63 ?_
            refine lv_aload_n hx hb dX0_takeBack_66 rfl (lv_at hl 1 rfl) ?_
            refine va_get (D := (dC, dI)) (ci := 0) (v := .int 19) (C := RX0) (T := TX0) (N := 4) hx hb hts in_X0 hown hK hP 0 rfl rfl 2 (by decide) (hts (.fieldLink RX0 18 "TextMender$Changes" "next" "I") (List.mem_of_getElem? (i := 2) rfl)) (fun _ h9 => h9) rfl dX0_takeBack_67 ?_
            refine lv_sipush (v := 300) hx hb dX0_takeBack_70 (by decide) ?_
            refine lv_imul hx hb dX0_takeBack_73 ?_
            refine k_i (y := 5700) (by decide) ?_
            refine lv_iload_n hx hb dX0_takeBack_74 rfl (lv_at hl 0 rfl) ?_
            refine lv_iadd hx hb dX0_takeBack_75 ?_
            refine lv_topi (fun x_17 ex_17 => ?_)
            have tx_17 : x_17.toInt = 5700 + i.toInt := v_add ex_17 (by show -2147483648 ≤ 5700 + i.toInt; omega) (by show 5700 + i.toInt < 2147483648; omega)
            refine va_iald hx hb hK hP 1 0 rfl rfl (v_in (by omega)) dX0_takeBack_76 ?_
            refine lv_topi (fun x_18 ex_18 => ?_)
            have hPc := hP.sub (ws' := [(nd, .inr (5, [.ref ad, .int l2])), (ad, .inl (cI, 300, .inl f2))]) [4, 3] rfl
            have hDc := hD.sub (ws' := [(nd, .inr (5, [.ref ad, .int l2])), (ad, .inl (cI, 300, .inl f2))]) [4, 3] (by decide) rfl
            have hFc := va_free (wc := [(nd, .inr (5, [.ref ad, .int l2])), (ad, .inl (cI, 300, .inl f2))]) hD hS hA [4, 3] rfl
            refine va_calli (va_runV (As := [.int x_18]) (rest := []) ⟨hx, hb, hml, hown, hts⟩ (m_X5_add l dC dI cI cS H.size nd ad 300 l2 f2 x_18 (by omega) (by omega)) (cwV 1 hts gX0_takeBack_X5_add rfl rfl rfl (by decide +kernel) ⟨Nat.le_of_ble_eq_true rfl, Nat.le_of_ble_eq_true rfl⟩) ⟨fun a U g mk q => by obtain ⟨q0, q1, qP, qK, qD⟩ := q; exact ⟨q0, q1, qP, va_K.moved (u := U) (U := U.calling g mk a) (Vm.Alike.refl U.vm) qK, qD⟩, va_recv hK hPc (ci := 5) (q0 := 0) rfl rfl, fun U hU hW => ⟨rfl, by rw [hU], by rw [hU]; exact hPc, va_K.moved hW.alike hK, hDc.weaken (fun _ _ _ _ => trivial)⟩⟩ rfl rfl hl.1 rfl (lv_room (Nat.le_of_ble_eq_true rfl)) dX0_takeBack_77 ⟨Nat.le_of_ble_eq_true rfl, Nat.le_of_ble_eq_true rfl⟩) hS (fun q _ h => hFc q h) hFc (fun r_19 u t H1 locs ht hvm hw hB hz1 hk1 hS => ?_)
            subst hw
            obtain ⟨lu_19, fu_19, hP1, hD1, hf19_0, hf19_1, hf19_2⟩ := hB
            rw [ht] at hP1
            obtain ⟨hP, hD⟩ := va_join (wr := [(oG, .inr (0, [.ref g1, .ref g2, .int 19, .int x_13])), (g1, .inl (cI, 6000, .inl fG1)), (g2, .inl (cI, 20, .inl fG2))]) (w1 := [(nd, .inr (5, [.ref ad, .int lu_19])), (ad, .inl (cI, 300, .inl fu_19))]) hP hD [4, 3] [0, 1, 2] rfl rfl (by decide) (by decide) hk1 hFc hP1 hD1
            generalize H1 = H at hP hS ⊢
            have hP : va_P (dC, dI) vwCl [(oG, .inr (0, [.ref g1, .ref g2, .int 19, .int x_13])), (g1, .inl (cI, 6000, .inl fG1)), (g2, .inl (cI, 20, .inl fG2)), (nd, .inr (5, [.ref ad, .int lu_19])), (ad, .inl (cI, 300, .inl fu_19))] H := hP
            have hD : va_D A [(oG, .inr (0, [.ref g1, .ref g2, .int 19, .int x_13])), (g1, .inl (cI, 6000, .inl fG1)), (g2, .inl (cI, 20, .inl fG2)), (nd, .inr (5, [.ref ad, .int lu_19])), (ad, .inl (cI, 300, .inl fu_19))] := hD
            refine lv_pop hx hb dX0_takeBack_80 rfl ?_
            obtain ⟨x_20, ex_20⟩ : ∃ y : Int32, y = i + 1 := ⟨_, rfl⟩
            have tx_20 : x_20.toInt = i.toInt + 1 := v_add ex_20 (by show -2147483648 ≤ i.toInt + 1; omega) (by show i.toInt + 1 < 2147483648; omega)
            refine lv_iinc (v := x_20) (lv' := [(2, .int x_20), (0, .ref oG), (1, .ref nd)]) hx hb dX0_takeBack_81 hl (k := 0) rfl (by rw [ex_20]; rfl) (by decide) rfl (fun ls hl => ?_)
            refine lv_goto (tgt := 48) hx hb dX0_takeBack_84 (by decide) ?_
            exact ih_48 x_20 lu_19 fu_19 _ _ _ (by have hm9 := hm_48; show ((300 - x_20.toInt : Int)).toNat < k_48; omega) (by show 0 ≤ x_20.toInt ∧ x_20.toInt ≤ 300; omega) (by show 0 ≤ lu_19.toInt ∧ lu_19.toInt ≤ 300; omega) (tbk_s htb ex_18 hf19_2 (by omega) (by omega) (by omega) (by omega) (by omega)) (by have q9 := ex_15; rw [← q9]; omega) (hP.sub [0, 1, 2, 4, 3] rfl) (hD.sub [0, 1, 2, 4, 3] (by decide) rfl) hS (lv_sub hl [0, 1, 2] rfl)
      exact LOOP_48 _ 0 lu_14 fd _ _ _ (Nat.lt_succ_self _) (by decide) (by show 0 ≤ lu_14.toInt ∧ lu_14.toInt ≤ 300; omega) (⟨by omega, fun j hj => absurd hj (by show ¬ (j : Int) < 0; omega)⟩) (by show (0 : Int) ≤ _; exact (g_fG2 _).1) hP hD hS (lv_sub hl [0, 1, 2] rfl)
  · have tc_1 : lG.toInt = 0 := v_eq c_1
    refine lv_iconst (v := 0) hx hb dX0_takeBack_7 (by decide) ?_
    have hP9 := hP.sub (ws' := [(oG, .inr (0, [.ref g1, .ref g2, .int gn, .int lG])), (g1, .inl (cI, 6000, .inl fG1)), (g2, .inl (cI, 20, .inl fG2)), (nd, .inr (5, [.ref ad, .int ld])), (ad, .inl (cI, 300, .inl fd))]) [0, 1, 2, 3, 4] rfl
    have hD9 := hD.sub (ws' := [(oG, .inr (0, [.ref g1, .ref g2, .int gn, .int lG])), (g1, .inl (cI, 6000, .inl fG1)), (g2, .inl (cI, 20, .inl fG2)), (nd, .inr (5, [.ref ad, .int ld])), (ad, .inl (cI, 300, .inl fd))]) [0, 1, 2, 3, 4] (by decide) rfl
    rw [hQQ]
    exact W.zret (v := 0) (ty := .boolean) hx hb hr (rfl) (fun t ht hW => ⟨⟨0, 0, rfl, rfl, ⟨gn, lG, ld, fd, by rw [ht]; exact hP9, hD9, by omega, by omega, by omega, by decide, Or.inr ⟨rfl, by omega, rfl, rfl, rfl, rfl⟩⟩⟩, hS.F ht⟩) hS.2.2 dX0_takeBack_8

def F_bk (r gn gn' lG lG' l l' : Int32) (f1 f2 f f' : Nat → Int32) : Prop := ∃ q : Int32, F_tbC q gn gn' lG lG' l l' f1 f2 f f' ∧ ((¬ q.toInt = 0 ∧ r.toInt = lG'.toInt) ∨ (q.toInt = 0 ∧ r.toInt = -1))
