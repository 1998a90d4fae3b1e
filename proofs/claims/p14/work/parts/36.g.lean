/-! 59i.bec -/
section
set_option maxHeartbeats 40000000 in
set_option maxRecDepth 100000 in
theorem f_X0_remember (l : Launch) (dC : Nat → ClassId) (dI : Nat → Nat → Nat) (cI cS : ClassId) (sz : Nat) (oG : Nat) (nx : Nat) (g1 : Nat) (g2 : Nat) (ax : Nat) (gn : Int32) (lG : Int32) (fG1 : Nat → Int32) (fG2 : Nat → Int32) (lx : Int32) (fx : Nat → Int32) (g_gn : 0 ≤ gn.toInt ∧ gn.toInt ≤ 19) (g_lG : 0 ≤ lG.toInt ∧ lG.toInt ≤ 20) (g_fG2 : rg 0 300 fG2) (g_lx : 0 ≤ lx.toInt ∧ lx.toInt ≤ 300) : Met l yX0_remember wsX0_remember ({ frames := 1, cells := 0, slots := 0, locals := 21 } : Room) (va_Pc [.ref oG, .ref nx] (fun U => U.heap.size = sz ∧ va_P (dC, dI) vwCl [(oG, .inr (0, [.ref g1, .ref g2, .int gn, .int lG])), (g1, .inl (cI, 6000, .inl fG1)), (g2, .inl (cI, 20, .inl fG2)), (nx, .inr (5, [.ref ax, .int lx])), (ax, .inl (cI, 300, .inl fx))] U.heap ∧ va_K (dC, dI) vwCl [(cI, .int), (cS, .short)] U ∧ va_D (fun _ => True) [(oG, .inr (0, [.ref g1, .ref g2, .int gn, .int lG])), (g1, .inl (cI, 6000, .inl fG1)), (g2, .inl (cI, 20, .inl fG2)), (nx, .inr (5, [.ref ax, .int lx])), (ax, .inl (cI, 300, .inl fx))])) (va_Qv (fun (_ : Unit) => True) (fun _ t => ∃ (gn' : Int32) (lG' : Int32) (fG1' : Nat → Int32) (fG2' : Nat → Int32), va_P (dC, dI) vwCl [(oG, .inr (0, [.ref g1, .ref g2, .int gn', .int lG'])), (g1, .inl (cI, 6000, .inl fG1')), (g2, .inl (cI, 20, .inl fG2')), (nx, .inr (5, [.ref ax, .int lx])), (ax, .inl (cI, 300, .inl fx))] t.heap ∧ va_D (va_A [(oG, .inr (0, [.ref g1, .ref g2, .int gn, .int lG])), (g1, .inl (cI, 6000, .inl fG1)), (g2, .inl (cI, 20, .inl fG2)), (nx, .inr (5, [.ref ax, .int lx])), (ax, .inl (cI, 300, .inl fx))] sz) [(oG, .inr (0, [.ref g1, .ref g2, .int gn', .int lG'])), (g1, .inl (cI, 6000, .inl fG1')), (g2, .inl (cI, 20, .inl fG2')), (nx, .inr (5, [.ref ax, .int lx])), (ax, .inl (cI, 300, .inl fx))] ∧ (0 ≤ gn'.toInt ∧ gn'.toInt ≤ 19) ∧ (0 ≤ lG'.toInt ∧ lG'.toInt ≤ 20) ∧ (rg 0 300 fG2') ∧ (F_rm gn gn' lG lG' lx fG1 fG1' fG2 fG2' fx)) (va_A [(oG, .inr (0, [.ref g1, .ref g2, .int gn, .int lG])), (g1, .inl (cI, 6000, .inl fG1)), (g2, .inl (cI, 20, .inl fG2)), (nx, .inr (5, [.ref ax, .int lx])), (ax, .inl (cI, 300, .inl fx))] sz)) 0 0 (va_A [(oG, .inr (0, [.ref g1, .ref g2, .int gn, .int lG])), (g1, .inl (cI, 6000, .inl fG1)), (g2, .inl (cI, 20, .inl fG2)), (nx, .inr (5, [.ref ax, .int lx])), (ax, .inl (cI, 300, .inl fx))] sz) := by
  refine Met.ofW (cc := cX0_remember) (maxL := 4) (ret := none) (by decide) rfl ?_
  intro p e s m args below meth c s₁ B hml hv
  obtain ⟨rfl, hsz, hP, hK, hD0⟩ := hv
  have hx := B.exec
  have hb := B.bytes
  have hr := B.returns
  have hts := atoms_spec (ws := wsX0_remember) B.pre
  have hown : s.vm.findClass RX0 = some m.cls := findClass_of_methodNamed B.named
  have hlocks := B.notSynchronized
  have in_X0 : ∀ w ∈ wsX00, w ∈ wsX0_remember := fun _ h => List.mem_cons_of_mem _ (List.mem_append_left _ (List.mem_append_right _ (h)))
  subst hsz
  have hD := hD0.self (sz := s.heap.size)
  generalize hAe : va_A [(oG, .inr (0, [.ref g1, .ref g2, .int gn, .int lG])), (g1, .inl (cI, 6000, .inl fG1)), (g2, .inl (cI, 20, .inl fG2)), (nx, .inr (5, [.ref ax, .int lx])), (ax, .inl (cI, 300, .inl fx))] s.heap.size = A at hD ⊢
  have hA : ∀ q : Nat, s.heap.size ≤ q → A q := fun q h => by rw [← hAe]; exact Or.inr h
  have hS : va_S A s.heap s.heap [] := va_S.rf
  have hP : va_P (dC, dI) vwCl [(oG, .inr (0, [.ref g1, .ref g2, .int gn, .int lG])), (g1, .inl (cI, 6000, .inl fG1)), (g2, .inl (cI, 20, .inl fG2)), (nx, .inr (5, [.ref ax, .int lx])), (ax, .inl (cI, 300, .inl fx))] s.heap := hP
  have hl := lv_entry ([.ref oG, .ref nx]) (n := 4) (Nat.le_of_ble_eq_true rfl)
  rw [lg_entry_eq]
  generalize (lg_sl ([.ref oG, .ref nx]) ++ List.replicate (4 - (lg_sl ([.ref oG, .ref nx])).length) Slot.unset).toArray = ls at hl ⊢
  have hl : lv_has ls 4 [(0, .ref oG), (1, .ref nx)] := hl
  obtain ⟨QQ, hQQ⟩ : ∃ QQ : Array Value → State → Outcome → State → Prop, QQ = va_Qv (fun (_ : Unit) => True) (fun _ t => ∃ (gn' : Int32) (lG' : Int32) (fG1' : Nat → Int32) (fG2' : Nat → Int32), va_P (dC, dI) vwCl [(oG, .inr (0, [.ref g1, .ref g2, .int gn', .int lG'])), (g1, .inl (cI, 6000, .inl fG1')), (g2, .inl (cI, 20, .inl fG2')), (nx, .inr (5, [.ref ax, .int lx])), (ax, .inl (cI, 300, .inl fx))] t.heap ∧ va_D A [(oG, .inr (0, [.ref g1, .ref g2, .int gn', .int lG'])), (g1, .inl (cI, 6000, .inl fG1')), (g2, .inl (cI, 20, .inl fG2')), (nx, .inr (5, [.ref ax, .int lx])), (ax, .inl (cI, 300, .inl fx))] ∧ (0 ≤ gn'.toInt ∧ gn'.toInt ≤ 19) ∧ (0 ≤ lG'.toInt ∧ lG'.toInt ≤ 20) ∧ (rg 0 300 fG2') ∧ (F_rm gn gn' lG lG' lx fG1 fG1' fG2 fG2' fx)) A := ⟨_, rfl⟩
  rw [← hQQ]
  refine lv_aload_n hx hb dX0_remember_0 rfl (lv_at hl 1 rfl) ?_
  have hPc := hP.sub (ws' := [(nx, .inr (5, [.ref ax, .int lx]))]) [3] rfl
  have hDc := hD.sub (ws' := [(nx, .inr (5, [.ref ax, .int lx]))]) [3] (by decide +kernel) rfl
  have hFc := va_free (wc := [(nx, .inr (5, [.ref ax, .int lx]))]) hD hS hA [3] rfl
  refine va_calli (va_runV (As := []) (rest := []) ⟨hx, hb, hml, hown, hts⟩ (m_X5_length l dC dI cI cS s.heap.size nx ax lx ) (cwV 0 hts gX0_remember_X5_length rfl rfl rfl (by decide +kernel) ⟨Nat.le_of_ble_eq_true rfl, Nat.le_of_ble_eq_true rfl⟩) ⟨fun a U g mk q => by obtain ⟨q0, q1, qP, qK, qD⟩ := q; exact ⟨q0, q1, qP, va_K.moved (u := U) (U := U.calling g mk a) (Vm.Alike.refl U.vm) qK, qD⟩, va_recv hK hPc (ci := 5) (q0 := 0) rfl rfl, fun U hU hW => ⟨rfl, by rw [hU], by rw [hU]; exact hPc, va_K.moved hW.alike hK, hDc.weaken (fun _ _ _ _ => trivial)⟩⟩ rfl rfl hl.1 rfl (lv_room (Nat.le_of_ble_eq_true rfl)) dX0_remember_1 ⟨Nat.le_of_ble_eq_true rfl, Nat.le_of_ble_eq_true rfl⟩) hS (fun q _ h => hFc q h) hFc (fun r_1 u t H1 locs ht hvm hw hB hz1 hk1 hSn => ?_)
  subst hw
  obtain ⟨hP1, hD1, hf1_0⟩ := hB
  rw [ht] at hP1
  obtain ⟨hPn, hDn⟩ := va_join (wr := [(oG, .inr (0, [.ref g1, .ref g2, .int gn, .int lG])), (g1, .inl (cI, 6000, .inl fG1)), (g2, .inl (cI, 20, .inl fG2)), (ax, .inl (cI, 300, .inl fx))]) (w1 := [(nx, .inr (5, [.ref ax, .int lx]))]) hP hD [3] [0, 1, 2, 4] rfl rfl (by decide +kernel) (by decide +kernel) hk1 hFc hP1 hD1
  clear hP hD hS hPc hDc hFc hk1 hz1 hvm ht hP1 hD1
  generalize H1 = H at hPn hSn ⊢
  have hP : va_P (dC, dI) vwCl [(oG, .inr (0, [.ref g1, .ref g2, .int gn, .int lG])), (g1, .inl (cI, 6000, .inl fG1)), (g2, .inl (cI, 20, .inl fG2)), (ax, .inl (cI, 300, .inl fx)), (nx, .inr (5, [.ref ax, .int lx]))] H := hPn
  have hD : va_D A [(oG, .inr (0, [.ref g1, .ref g2, .int gn, .int lG])), (g1, .inl (cI, 6000, .inl fG1)), (g2, .inl (cI, 20, .inl fG2)), (ax, .inl (cI, 300, .inl fx)), (nx, .inr (5, [.ref ax, .int lx]))] := hDn
  have hS := hSn
  clear hPn hDn hSn
  rw [hf1_0]
  refine lv_sipush (v := 300) hx hb dX0_remember_4 (by decide) ?_
  refine va_mmin hx hb (by rw [hml]; exact hl.1.symm) hown (hts (.methodLink RX0 30 Lib.Math.min.name) (List.mem_of_getElem? (i := 1) rfl)) (hts (.static Lib.Math.min.name) (List.mem_of_getElem? (i := 2) rfl)) (hts (.initialized "java/lang/Math") (List.mem_of_getElem? (i := 3) rfl)) (hts (.code Lib.Math.min.name Lib.Math.min.code 2 (some .int)) (List.mem_of_getElem? (i := 4) rfl)) (Nat.le_of_ble_eq_true rfl) (Nat.le_of_ble_eq_true rfl) (Nat.zero_le _) (Nat.zero_le _) dX0_remember_7 ?_
  refine lv_topi (fun x_2 ex_2 => ?_)
  have tx_2 : x_2.toInt ≤ lx.toInt ∧ x_2.toInt ≤ 300 ∧ (x_2.toInt = lx.toInt ∨ x_2.toInt = 300) := v_min ex_2
  refine lv_istore_n (lv' := [(2, .int x_2), (0, .ref oG), (1, .ref nx)]) hx hb dX0_remember_10 rfl hl (by decide) rfl (fun ls hl => ?_)
  refine lv_iconst (v := 0) hx hb dX0_remember_11 (by decide) ?_
  refine lv_istore_n (lv' := [(3, .int 0), (2, .int x_2), (0, .ref oG), (1, .ref nx)]) hx hb dX0_remember_12 rfl hl (by decide) rfl (fun ls hl => ?_)
  have LOOP_13 : ∀ (k_13 : Nat) (i : Int32) (f2 : Nat → Int32) (H : Heap) (locs : List Loc) (ls : Array Slot), MSd (300 - i.toInt : Int) k_13 → (0 ≤ i.toInt ∧ i.toInt ≤ 300) → (i.toInt ≤ lx.toInt) → (CPB (300 * gn.toInt) i.toInt fG1 f2 fx) → va_P (dC, dI) vwCl [(oG, .inr (0, [.ref g1, .ref g2, .int gn, .int lG])), (g1, .inl (cI, 6000, .inl f2)), (g2, .inl (cI, 20, .inl fG2)), (ax, .inl (cI, 300, .inl fx)), (nx, .inr (5, [.ref ax, .int lx]))] H → va_D A [(oG, .inr (0, [.ref g1, .ref g2, .int gn, .int lG])), (g1, .inl (cI, 6000, .inl f2)), (g2, .inl (cI, 20, .inl fG2)), (ax, .inl (cI, 300, .inl fx)), (nx, .inr (5, [.ref ax, .int lx]))] → va_S A s.heap H locs → lv_has ls 4 [(3, .int i), (2, .int x_2), (0, .ref oG), (1, .ref nx)] → W p l e (headSpec wsX0_remember ({ frames := 1, cells := 0, slots := 0, locals := 21 } : Room)).room s m ([.ref oG, .ref nx] : List Value).toArray below meth c H locs 0 0 (MQ below QQ ([.ref oG, .ref nx] : List Value).toArray s 0 0 A) (F0 m 13 ls []) := by
    clear hP hD hS hl
    intro k_13
    induction k_13 with
    | zero =>
      intro i f2 H locs ls hm_13 g_i hin hcb hP hD hS hl
      exact ms_0 hm_13
    | succ k_13 ih_13 =>
      intro i f2 H locs ls hm_13 g_i hin hcb hP hD hS hl
      refine lv_iload_n hx hb dX0_remember_13 rfl (lv_at hl 0 rfl) ?_
      refine lv_iload_n hx hb dX0_remember_14 rfl (lv_at hl 1 rfl) ?_
      refine lv_icmp_ge (tgt := 44) hx hb dX0_remember_15 (by decide) (fun c_3 => ?_) (fun c_3 => ?_)
      · have tc_3 : x_2.toInt ≤ i.toInt := v_le c_3
        refine lv_aload_n hx hb dX0_remember_44 rfl (lv_at hl 2 rfl) ?_
        refine va_get (D := (dC, dI)) (ci := 0) (v := .ref g2) (C := RX0) (T := TX0) (N := 4) hx hb hts in_X0 hown hK hP 0 rfl rfl 1 (by decide) (hts (.fieldLink RX0 15 "TextMender$Changes" "keptLength" "[I") (List.mem_of_getElem? (i := 7) rfl)) (fun _ h9 => h9) rfl dX0_remember_45 ?_
        refine lv_aload_n hx hb dX0_remember_48 rfl (lv_at hl 2 rfl) ?_
        refine va_get (D := (dC, dI)) (ci := 0) (v := .int gn) (C := RX0) (T := TX0) (N := 4) hx hb hts in_X0 hown hK hP 0 rfl rfl 2 (by decide) (hts (.fieldLink RX0 18 "TextMender$Changes" "next" "I") (List.mem_of_getElem? (i := 6) rfl)) (fun _ h9 => h9) rfl dX0_remember_49 ?_
        refine lv_iload_n hx hb dX0_remember_52 rfl (lv_at hl 1 rfl) ?_
        refine va_iast hx hb hK hP hD hS 2 0 rfl rfl (v_in (by omega)) dX0_remember_53 (fun H locs hPn hDn hSn => ?_)
        clear hP hD hS
        have hP : va_P (dC, dI) vwCl [(oG, .inr (0, [.ref g1, .ref g2, .int gn, .int lG])), (g1, .inl (cI, 6000, .inl f2)), (g2, .inl (cI, 20, .inl (upd fG2 (gn : Int32).toNatClampNeg x_2))), (ax, .inl (cI, 300, .inl fx)), (nx, .inr (5, [.ref ax, .int lx]))] H := hPn
        have hD : va_D A [(oG, .inr (0, [.ref g1, .ref g2, .int gn, .int lG])), (g1, .inl (cI, 6000, .inl f2)), (g2, .inl (cI, 20, .inl (upd fG2 (gn : Int32).toNatClampNeg x_2))), (ax, .inl (cI, 300, .inl fx)), (nx, .inr (5, [.ref ax, .int lx]))] := hDn
        have hS := hSn
        clear hPn hDn hSn
        obtain ⟨f_4, ef_4⟩ : ∃ g : Nat → Int32, g = upd fG2 (gn : Int32).toNatClampNeg x_2 := ⟨_, rfl⟩
        rw [← ef_4] at hP hD
        have g_f4 : rg 0 300 f_4 := rg_upd ef_4 g_fG2 (by omega)
        refine lv_aload_n hx hb dX0_remember_54 rfl (lv_at hl 2 rfl) ?_
        refine lv_aload_n hx hb dX0_remember_55 rfl (lv_at hl 2 rfl) ?_
        refine va_get (D := (dC, dI)) (ci := 0) (v := .int gn) (C := RX0) (T := TX0) (N := 4) hx hb hts in_X0 hown hK hP 0 rfl rfl 2 (by decide) (hts (.fieldLink RX0 18 "TextMender$Changes" "next" "I") (List.mem_of_getElem? (i := 6) rfl)) (fun _ h9 => h9) rfl dX0_remember_56 ?_
        refine lv_bipush (v := 19) hx hb dX0_remember_59 (by decide) ?_
        refine lv_icmp_ne (tgt := 68) hx hb dX0_remember_61 (by decide) (fun c_5 => ?_) (fun c_5 => ?_)
        · have tc_5 : ¬ gn.toInt = 19 := v_ne c_5
          refine lv_aload_n hx hb dX0_remember_68 rfl (lv_at hl 2 rfl) ?_
          refine va_get (D := (dC, dI)) (ci := 0) (v := .int gn) (C := RX0) (T := TX0) (N := 4) hx hb hts in_X0 hown hK hP 0 rfl rfl 2 (by decide) (hts (.fieldLink RX0 18 "TextMender$Changes" "next" "I") (List.mem_of_getElem? (i := 6) rfl)) (fun _ h9 => h9) rfl dX0_remember_69 ?_
          refine lv_iconst (v := 1) hx hb dX0_remember_72 (by decide) ?_
          refine lv_iadd hx hb dX0_remember_73 ?_
          refine lv_topi (fun x_6 ex_6 => ?_)
          have tx_6 : x_6.toInt = gn.toInt + 1 := v_add ex_6 (by show -2147483648 ≤ gn.toInt + 1; omega) (by show gn.toInt + 1 < 2147483648; omega)
          refine va_put (D := (dC, dI)) (ci := 0) (v := .int x_6) (ty := .int) (C := RX0) (T := TX0) (N := 4) hx hb hts in_X0 tyX0 tyX0_ok nmX0 hown hK hP hD hS 0 rfl rfl 2 (by decide) (hts (.fieldLink RX0 18 "TextMender$Changes" "next" "I") (List.mem_of_getElem? (i := 6) rfl)) (fun _ h9 => h9) rfl (by decide +kernel) rfl rfl (Nat.le_of_ble_eq_true rfl) dX0_remember_74 (fun H locs hPn hDn hSn => ?_)
          clear hP hD hS
          have hP : va_P (dC, dI) vwCl [(oG, .inr (0, [.ref g1, .ref g2, .int x_6, .int lG])), (g1, .inl (cI, 6000, .inl f2)), (g2, .inl (cI, 20, .inl f_4)), (ax, .inl (cI, 300, .inl fx)), (nx, .inr (5, [.ref ax, .int lx]))] H := hPn
          have hD : va_D A [(oG, .inr (0, [.ref g1, .ref g2, .int x_6, .int lG])), (g1, .inl (cI, 6000, .inl f2)), (g2, .inl (cI, 20, .inl f_4)), (ax, .inl (cI, 300, .inl fx)), (nx, .inr (5, [.ref ax, .int lx]))] := hDn
          have hS := hSn
          clear hPn hDn hSn
          refine lv_aload_n hx hb dX0_remember_77 rfl (lv_at hl 2 rfl) ?_
          refine lv_aload_n hx hb dX0_remember_78 rfl (lv_at hl 2 rfl) ?_
          refine va_get (D := (dC, dI)) (ci := 0) (v := .int lG) (C := RX0) (T := TX0) (N := 4) hx hb hts in_X0 hown hK hP 0 rfl rfl 3 (by decide) (hts (.fieldLink RX0 22 "TextMender$Changes" "length" "I") (List.mem_of_getElem? (i := 8) rfl)) (fun _ h9 => h9) rfl dX0_remember_79 ?_
          refine lv_iconst (v := 1) hx hb dX0_remember_82 (by decide) ?_
          refine lv_iadd hx hb dX0_remember_83 ?_
          refine lv_topi (fun x_7 ex_7 => ?_)
          have tx_7 : x_7.toInt = lG.toInt + 1 := v_add ex_7 (by show -2147483648 ≤ lG.toInt + 1; omega) (by show lG.toInt + 1 < 2147483648; omega)
          refine lv_bipush (v := 20) hx hb dX0_remember_84 (by decide) ?_
          refine va_mmin hx hb (by rw [hml]; exact hl.1.symm) hown (hts (.methodLink RX0 30 Lib.Math.min.name) (List.mem_of_getElem? (i := 1) rfl)) (hts (.static Lib.Math.min.name) (List.mem_of_getElem? (i := 2) rfl)) (hts (.initialized "java/lang/Math") (List.mem_of_getElem? (i := 3) rfl)) (hts (.code Lib.Math.min.name Lib.Math.min.code 2 (some .int)) (List.mem_of_getElem? (i := 4) rfl)) (Nat.le_of_ble_eq_true rfl) (Nat.le_of_ble_eq_true rfl) (Nat.zero_le _) (Nat.zero_le _) dX0_remember_86 ?_
          refine lv_topi (fun x_8 ex_8 => ?_)
          have tx_8 : x_8.toInt ≤ x_7.toInt ∧ x_8.toInt ≤ 20 ∧ (x_8.toInt = x_7.toInt ∨ x_8.toInt = 20) := v_min ex_8
          refine va_put (D := (dC, dI)) (ci := 0) (v := .int x_8) (ty := .int) (C := RX0) (T := TX0) (N := 4) hx hb hts in_X0 tyX0 tyX0_ok nmX0 hown hK hP hD hS 0 rfl rfl 3 (by decide) (hts (.fieldLink RX0 22 "TextMender$Changes" "length" "I") (List.mem_of_getElem? (i := 8) rfl)) (fun _ h9 => h9) rfl (by decide +kernel) rfl rfl (Nat.le_of_ble_eq_true rfl) dX0_remember_89 (fun H locs hPn hDn hSn => ?_)
          clear hP hD hS
          have hP : va_P (dC, dI) vwCl [(oG, .inr (0, [.ref g1, .ref g2, .int x_6, .int x_8])), (g1, .inl (cI, 6000, .inl f2)), (g2, .inl (cI, 20, .inl f_4)), (ax, .inl (cI, 300, .inl fx)), (nx, .inr (5, [.ref ax, .int lx]))] H := hPn
          have hD : va_D A [(oG, .inr (0, [.ref g1, .ref g2, .int x_6, .int x_8])), (g1, .inl (cI, 6000, .inl f2)), (g2, .inl (cI, 20, .inl f_4)), (ax, .inl (cI, 300, .inl fx)), (nx, .inr (5, [.ref ax, .int lx]))] := hDn
          have hS := hSn
          clear hPn hDn hSn
          have hP9 := hP.sub (ws' := [(oG, .inr (0, [.ref g1, .ref g2, .int x_6, .int x_8])), (g1, .inl (cI, 6000, .inl f2)), (g2, .inl (cI, 20, .inl f_4)), (nx, .inr (5, [.ref ax, .int lx])), (ax, .inl (cI, 300, .inl fx))]) [0, 1, 2, 4, 3] rfl
          have hD9 := hD.sub (ws' := [(oG, .inr (0, [.ref g1, .ref g2, .int x_6, .int x_8])), (g1, .inl (cI, 6000, .inl f2)), (g2, .inl (cI, 20, .inl f_4)), (nx, .inr (5, [.ref ax, .int lx])), (ax, .inl (cI, 300, .inl fx))]) [0, 1, 2, 4, 3] (by decide +kernel) rfl
          rw [hQQ]
          exact W.vret hx hb hr (fun t ht hW => ⟨⟨(), rfl, trivial, ⟨x_6, x_8, f2, f_4, by rw [ht]; exact hP9, hD9, by omega, by omega, g_f4, ⟨CPB_n hcb (by omega), ⟨x_2, by omega, ef_4⟩, by first | omega | (show (0 : Int) = _; omega), by omega⟩⟩⟩, hS.F ht⟩) hS.2.2 dX0_remember_92
        · have tc_5 : gn.toInt = 19 := v_eq c_5
          refine lv_iconst (v := 0) hx hb dX0_remember_64 (by decide) ?_
          refine lv_goto (tgt := 74) hx hb dX0_remember_65 (by decide) ?_
          refine va_put (D := (dC, dI)) (ci := 0) (v := .int 0) (ty := .int) (C := RX0) (T := TX0) (N := 4) hx hb hts in_X0 tyX0 tyX0_ok nmX0 hown hK hP hD hS 0 rfl rfl 2 (by decide) (hts (.fieldLink RX0 18 "TextMender$Changes" "next" "I") (List.mem_of_getElem? (i := 6) rfl)) (fun _ h9 => h9) rfl (by decide +kernel) rfl rfl (Nat.le_of_ble_eq_true rfl) dX0_remember_74 (fun H locs hPn hDn hSn => ?_)
          clear hP hD hS
          have hP : va_P (dC, dI) vwCl [(oG, .inr (0, [.ref g1, .ref g2, .int 0, .int lG])), (g1, .inl (cI, 6000, .inl f2)), (g2, .inl (cI, 20, .inl f_4)), (ax, .inl (cI, 300, .inl fx)), (nx, .inr (5, [.ref ax, .int lx]))] H := hPn
          have hD : va_D A [(oG, .inr (0, [.ref g1, .ref g2, .int 0, .int lG])), (g1, .inl (cI, 6000, .inl f2)), (g2, .inl (cI, 20, .inl f_4)), (ax, .inl (cI, 300, .inl fx)), (nx, .inr (5, [.ref ax, .int lx]))] := hDn
          have hS := hSn
          clear hPn hDn hSn
          refine lv_aload_n hx hb dX0_remember_77 rfl (lv_at hl 2 rfl) ?_
          refine lv_aload_n hx hb dX0_remember_78 rfl (lv_at hl 2 rfl) ?_
          refine va_get (D := (dC, dI)) (ci := 0) (v := .int lG) (C := RX0) (T := TX0) (N := 4) hx hb hts in_X0 hown hK hP 0 rfl rfl 3 (by decide) (hts (.fieldLink RX0 22 "TextMender$Changes" "length" "I") (List.mem_of_getElem? (i := 8) rfl)) (fun _ h9 => h9) rfl dX0_remember_79 ?_
          refine lv_iconst (v := 1) hx hb dX0_remember_82 (by decide) ?_
          refine lv_iadd hx hb dX0_remember_83 ?_
          refine lv_topi (fun x_9 ex_9 => ?_)
          have tx_9 : x_9.toInt = lG.toInt + 1 := v_add ex_9 (by show -2147483648 ≤ lG.toInt + 1; omega) (by show lG.toInt + 1 < 2147483648; omega)
          refine lv_bipush (v := 20) hx hb dX0_remember_84 (by decide) ?_
          refine va_mmin hx hb (by rw [hml]; exact hl.1.symm) hown (hts (.methodLink RX0 30 Lib.Math.min.name) (List.mem_of_getElem? (i := 1) rfl)) (hts (.static Lib.Math.min.name) (List.mem_of_getElem? (i := 2) rfl)) (hts (.initialized "java/lang/Math") (List.mem_of_getElem? (i := 3) rfl)) (hts (.code Lib.Math.min.name Lib.Math.min.code 2 (some .int)) (List.mem_of_getElem? (i := 4) rfl)) (Nat.le_of_ble_eq_true rfl) (Nat.le_of_ble_eq_true rfl) (Nat.zero_le _) (Nat.zero_le _) dX0_remember_86 ?_
          refine lv_topi (fun x_10 ex_10 => ?_)
          have tx_10 : x_10.toInt ≤ x_9.toInt ∧ x_10.toInt ≤ 20 ∧ (x_10.toInt = x_9.toInt ∨ x_10.toInt = 20) := v_min ex_10
          refine va_put (D := (dC, dI)) (ci := 0) (v := .int x_10) (ty := .int) (C := RX0) (T := TX0) (N := 4) hx hb hts in_X0 tyX0 tyX0_ok nmX0 hown hK hP hD hS 0 rfl rfl 3 (by decide) (hts (.fieldLink RX0 22 "TextMender$Changes" "length" "I") (List.mem_of_getElem? (i := 8) rfl)) (fun _ h9 => h9) rfl (by decide +kernel) rfl rfl (Nat.le_of_ble_eq_true rfl) dX0_remember_89 (fun H locs hPn hDn hSn => ?_)
          clear hP hD hS
          have hP : va_P (dC, dI) vwCl [(oG, .inr (0, [.ref g1, .ref g2, .int 0, .int x_10])), (g1, .inl (cI, 6000, .inl f2)), (g2, .inl (cI, 20, .inl f_4)), (ax, .inl (cI, 300, .inl fx)), (nx, .inr (5, [.ref ax, .int lx]))] H := hPn
          have hD : va_D A [(oG, .inr (0, [.ref g1, .ref g2, .int 0, .int x_10])), (g1, .inl (cI, 6000, .inl f2)), (g2, .inl (cI, 20, .inl f_4)), (ax, .inl (cI, 300, .inl fx)), (nx, .inr (5, [.ref ax, .int lx]))] := hDn
          have hS := hSn
          clear hPn hDn hSn
          have hP9 := hP.sub (ws' := [(oG, .inr (0, [.ref g1, .ref g2, .int 0, .int x_10])), (g1, .inl (cI, 6000, .inl f2)), (g2, .inl (cI, 20, .inl f_4)), (nx, .inr (5, [.ref ax, .int lx])), (ax, .inl (cI, 300, .inl fx))]) [0, 1, 2, 4, 3] rfl
          have hD9 := hD.sub (ws' := [(oG, .inr (0, [.ref g1, .ref g2, .int 0, .int x_10])), (g1, .inl (cI, 6000, .inl f2)), (g2, .inl (cI, 20, .inl f_4)), (nx, .inr (5, [.ref ax, .int lx])), (ax, .inl (cI, 300, .inl fx))]) [0, 1, 2, 4, 3] (by decide +kernel) rfl
          rw [hQQ]
          exact W.vret hx hb hr (fun t ht hW => ⟨⟨(), rfl, trivial, ⟨0, x_10, f2, f_4, by rw [ht]; exact hP9, hD9, by decide, by omega, g_f4, ⟨CPB_n hcb (by omega), ⟨x_2, by omega, ef_4⟩, by first | omega | (show (0 : Int) = _; omega), by omega⟩⟩⟩, hS.F ht⟩) hS.2.2 dX0_remember_92
      · have tc_3 : i.toInt < x_2.toInt := v_nle c_3
        refine lv_aload_n hx hb dX0_remember_18 rfl (lv_at hl 2 rfl) ?_
        refine va_get (D := (dC, dI)) (ci := 0) (v := .ref g1) (C := RX0) (T := TX0) (N := 4) hx hb hts in_X0 hown hK hP 0 rfl rfl 0 (by decide) (hts (.fieldLink RX0 11 "TextMender$Changes" "kept" "[I") (List.mem_of_getElem? (i := 5) rfl)) (fun _ h9 => h9) rfl dX0_remember_19 ?_
        refine lv_aload_n hx hb dX0_remember_22 rfl (lv_at hl 2 rfl) ?_
        refine va_get (D := (dC, dI)) (ci := 0) (v := .int gn) (C := RX0) (T := TX0) (N := 4) hx hb hts in_X0 hown hK hP 0 rfl rfl 2 (by decide) (hts (.fieldLink RX0 18 "TextMender$Changes" "next" "I") (List.mem_of_getElem? (i := 6) rfl)) (fun _ h9 => h9) rfl dX0_remember_23 ?_
        refine lv_sipush (v := 300) hx hb dX0_remember_26 (by decide) ?_
        refine lv_imul hx hb dX0_remember_29 ?_
        refine lv_topi (fun x_11 ex_11 => ?_)
        have tx_11 : x_11.toInt = gn.toInt * 300 := v_mul ex_11 (by show -2147483648 ≤ gn.toInt * 300; omega) (by show gn.toInt * 300 < 2147483648; omega)
        refine lv_iload_n hx hb dX0_remember_30 rfl (lv_at hl 0 rfl) ?_
        refine lv_iadd hx hb dX0_remember_31 ?_
        refine lv_topi (fun x_12 ex_12 => ?_)
        have tx_12 : x_12.toInt = x_11.toInt + i.toInt := v_add ex_12 (by show -2147483648 ≤ x_11.toInt + i.toInt; omega) (by show x_11.toInt + i.toInt < 2147483648; omega)
        refine lv_aload_n hx hb dX0_remember_32 rfl (lv_at hl 3 rfl) ?_
        refine lv_iload_n hx hb dX0_remember_33 rfl (lv_at hl 0 rfl) ?_
        have hPc := hP.sub (ws' := [(nx, .inr (5, [.ref ax, .int lx])), (ax, .inl (cI, 300, .inl fx))]) [4, 3] rfl
        have hDc := hD.sub (ws' := [(nx, .inr (5, [.ref ax, .int lx])), (ax, .inl (cI, 300, .inl fx))]) [4, 3] (by decide +kernel) rfl
        have hFc := va_free (wc := [(nx, .inr (5, [.ref ax, .int lx])), (ax, .inl (cI, 300, .inl fx))]) hD hS hA [4, 3] rfl
        refine va_calli (va_runV (As := [.int i]) (rest := [.int x_12, .ref g1]) ⟨hx, hb, hml, hown, hts⟩ (m_X5_get l dC dI cI cS H.size nx ax 300 lx fx i (by omega) (by omega)) (cwV 1 hts gX0_remember_X5_get rfl rfl rfl (by decide +kernel) ⟨Nat.le_of_ble_eq_true rfl, Nat.le_of_ble_eq_true rfl⟩) ⟨fun a U g mk q => by obtain ⟨q0, q1, qP, qK, qD⟩ := q; exact ⟨q0, q1, qP, va_K.moved (u := U) (U := U.calling g mk a) (Vm.Alike.refl U.vm) qK, qD⟩, va_recv hK hPc (ci := 5) (q0 := 0) rfl rfl, fun U hU hW => ⟨rfl, by rw [hU], by rw [hU]; exact hPc, va_K.moved hW.alike hK, hDc.weaken (fun _ _ _ _ => trivial)⟩⟩ rfl rfl hl.1 rfl (lv_room (Nat.le_of_ble_eq_true rfl)) dX0_remember_34 ⟨Nat.le_of_ble_eq_true rfl, Nat.le_of_ble_eq_true rfl⟩) hS (fun q _ h => hFc q h) hFc (fun r_13 u t H1 locs ht hvm hw hB hz1 hk1 hSn => ?_)
        subst hw
        obtain ⟨hP1, hD1, hf13_0⟩ := hB
        rw [ht] at hP1
        obtain ⟨hPn, hDn⟩ := va_join (wr := [(oG, .inr (0, [.ref g1, .ref g2, .int gn, .int lG])), (g1, .inl (cI, 6000, .inl f2)), (g2, .inl (cI, 20, .inl fG2))]) (w1 := [(nx, .inr (5, [.ref ax, .int lx])), (ax, .inl (cI, 300, .inl fx))]) hP hD [4, 3] [0, 1, 2] rfl rfl (by decide +kernel) (by decide +kernel) hk1 hFc hP1 hD1
        clear hP hD hS hPc hDc hFc hk1 hz1 hvm ht hP1 hD1
        generalize H1 = H at hPn hSn ⊢
        have hP : va_P (dC, dI) vwCl [(oG, .inr (0, [.ref g1, .ref g2, .int gn, .int lG])), (g1, .inl (cI, 6000, .inl f2)), (g2, .inl (cI, 20, .inl fG2)), (nx, .inr (5, [.ref ax, .int lx])), (ax, .inl (cI, 300, .inl fx))] H := hPn
        have hD : va_D A [(oG, .inr (0, [.ref g1, .ref g2, .int gn, .int lG])), (g1, .inl (cI, 6000, .inl f2)), (g2, .inl (cI, 20, .inl fG2)), (nx, .inr (5, [.ref ax, .int lx])), (ax, .inl (cI, 300, .inl fx))] := hDn
        have hS := hSn
        clear hPn hDn hSn
        have hg13 : r_13 = fx i.toNatClampNeg := F_get_f hf13_0 (by omega) (by omega)
        refine va_iast hx hb hK hP hD hS 1 0 rfl rfl (v_in (by omega)) dX0_remember_37 (fun H locs hPn hDn hSn => ?_)
        clear hP hD hS
        have hP : va_P (dC, dI) vwCl [(oG, .inr (0, [.ref g1, .ref g2, .int gn, .int lG])), (g1, .inl (cI, 6000, .inl (upd f2 (x_12 : Int32).toNatClampNeg r_13))), (g2, .inl (cI, 20, .inl fG2)), (nx, .inr (5, [.ref ax, .int lx])), (ax, .inl (cI, 300, .inl fx))] H := hPn
        have hD : va_D A [(oG, .inr (0, [.ref g1, .ref g2, .int gn, .int lG])), (g1, .inl (cI, 6000, .inl (upd f2 (x_12 : Int32).toNatClampNeg r_13))), (g2, .inl (cI, 20, .inl fG2)), (nx, .inr (5, [.ref ax, .int lx])), (ax, .inl (cI, 300, .inl fx))] := hDn
        have hS := hSn
        clear hPn hDn hSn
        obtain ⟨f_14, ef_14⟩ : ∃ g : Nat → Int32, g = upd f2 (x_12 : Int32).toNatClampNeg r_13 := ⟨_, rfl⟩
        rw [← ef_14] at hP hD
        obtain ⟨x_15, ex_15⟩ : ∃ y : Int32, y = i + 1 := ⟨_, rfl⟩
        have tx_15 : x_15.toInt = i.toInt + 1 := v_add ex_15 (by show -2147483648 ≤ i.toInt + 1; omega) (by show i.toInt + 1 < 2147483648; omega)
        refine lv_iinc (v := x_15) (lv' := [(3, .int x_15), (2, .int x_2), (0, .ref oG), (1, .ref nx)]) hx hb dX0_remember_38 hl (k := 0) rfl (by rw [ex_15]; rfl) (by decide) rfl (fun ls hl => ?_)
        refine lv_goto (tgt := 13) hx hb dX0_remember_41 (by decide) ?_
        exact ih_13 x_15 f_14 _ _ _ (ms_lt hm_13 (by show ((300 - x_15.toInt : Int)) < 300 - i.toInt; omega) (by show (0 : Int) < 300 - i.toInt; omega)) (by show 0 ≤ x_15.toInt ∧ x_15.toInt ≤ 300; omega) (by show x_15.toInt ≤ lx.toInt; omega) (CPB_s hcb (by omega) (by omega) hg13 ef_14 (by omega) (by omega)) (hP.sub [0, 1, 2, 4, 3] rfl) (hD.sub [0, 1, 2, 4, 3] (by decide +kernel) rfl) hS (lv_sub hl [0, 1, 2, 3] rfl)
  exact LOOP_13 _ 0 fG1 _ _ _ (ms_s _) (by decide) (by show 0 ≤ lx.toInt; omega) (CPB_0 (by decide)) hP hD hS (lv_sub hl [0, 1, 2, 3] rfl)

set_option maxHeartbeats 40000000 in
set_option maxRecDepth 100000 in
theorem f_X11_bec (l : Launch) (dC : Nat → ClassId) (dI : Nat → Nat → Nat) (cI cS : ClassId) (sz : Nat) (oX : Nat) (nM : Nat) (nT : Nat) (nL : Nat) (oC : Nat) (oP : Nat) (oH : Nat) (oK : Nat) (oG : Nat) (oR : Nat) (oQ : Nat) (oW : Nat) (aL : Nat) (aM : Nat) (g1 : Nat) (g2 : Nat) (nw : Nat) (w1 : Nat) (w2 : Nat) (w3 : Nat) (o7 : Nat) (o8 : Nat) (o9 : Nat) (w4 : Nat) (w5 : Nat) (w6 : Nat) (w7 : Nat) (fa : Int32) (lL : Int32) (fL : Nat → Int32) (lM : Int32) (fM : Nat → Int32) (gn : Int32) (lG : Int32) (fG1 : Nat → Int32) (fG2 : Nat → Int32) (ke : Int32) (tl : Int32) (fsh : Int32) (wi : Int32) (ri : Int32) (fm : Int32) (lm : Int32) (g_lL : 0 ≤ lL.toInt ∧ lL.toInt ≤ 300) (g_lM : 0 ≤ lM.toInt ∧ lM.toInt ≤ 300) (g_gn : 0 ≤ gn.toInt ∧ gn.toInt ≤ 19) (g_lG : 0 ≤ lG.toInt ∧ lG.toInt ≤ 20) (g_fG2 : rg 0 300 fG2) (g_ke : 0 ≤ ke.toInt ∧ ke.toInt ≤ 200) (g_fsh : 0 ≤ fsh.toInt ∧ fsh.toInt ≤ 1) (g_fm : -1 ≤ fm.toInt ∧ fm.toInt ≤ 800) (g_lm : -1 ≤ lm.toInt ∧ lm.toInt ≤ 800) : Met l yX11_become wsX11_become ({ frames := 3, cells := 0, slots := 0, locals := 90 } : Room) (va_Pc [.ref oX, .ref nM] (fun U => U.heap.size = sz ∧ va_P (dC, dI) vwCl [(oX, .inr (11, [.ref nT, .ref nL, .ref nM, .ref oC, .ref oP, .ref oH, .ref oK, .ref oG, .ref oR, .ref oQ, .ref oW, .int fa])), (nL, .inr (5, [.ref aL, .int lL])), (aL, .inl (cI, 300, .inl fL)), (nM, .inr (5, [.ref aM, .int lM])), (aM, .inl (cI, 300, .inl fM)), (oG, .inr (0, [.ref g1, .ref g2, .int gn, .int lG])), (g1, .inl (cI, 6000, .inl fG1)), (g2, .inl (cI, 20, .inl fG2)), (oW, .inr (1, [.ref oC, .ref oK, .ref nw, .ref w1, .ref w2, .ref w3, .ref o7, .ref o8, .ref o9, .ref w4, .ref w5, .ref w6, .ref w7, .int ke, .int tl, .int fsh, .int wi, .int ri, .int fm, .int lm]))] U.heap ∧ va_K (dC, dI) vwCl [(cI, .int), (cS, .short)] U ∧ va_D (fun _ => True) [(oX, .inr (11, [.ref nT, .ref nL, .ref nM, .ref oC, .ref oP, .ref oH, .ref oK, .ref oG, .ref oR, .ref oQ, .ref oW, .int fa])), (nL, .inr (5, [.ref aL, .int lL])), (aL, .inl (cI, 300, .inl fL)), (nM, .inr (5, [.ref aM, .int lM])), (aM, .inl (cI, 300, .inl fM)), (oG, .inr (0, [.ref g1, .ref g2, .int gn, .int lG])), (g1, .inl (cI, 6000, .inl fG1)), (g2, .inl (cI, 20, .inl fG2)), (oW, .inr (1, [.ref oC, .ref oK, .ref nw, .ref w1, .ref w2, .ref w3, .ref o7, .ref o8, .ref o9, .ref w4, .ref w5, .ref w6, .ref w7, .int ke, .int tl, .int fsh, .int wi, .int ri, .int fm, .int lm]))])) (va_Qi (fun (r : Int32) (u : Int32) => r = u) (fun (r : Int32) t => ∃ (lL' : Int32) (fL' : Nat → Int32) (fsh' : Int32) (gn' : Int32) (lG' : Int32) (fG1' : Nat → Int32) (fG2' : Nat → Int32), va_P (dC, dI) vwCl [(oX, .inr (11, [.ref nT, .ref nL, .ref nM, .ref oC, .ref oP, .ref oH, .ref oK, .ref oG, .ref oR, .ref oQ, .ref oW, .int fa])), (nL, .inr (5, [.ref aL, .int lL'])), (aL, .inl (cI, 300, .inl fL')), (nM, .inr (5, [.ref aM, .int lM])), (aM, .inl (cI, 300, .inl fM)), (oG, .inr (0, [.ref g1, .ref g2, .int gn', .int lG'])), (g1, .inl (cI, 6000, .inl fG1')), (g2, .inl (cI, 20, .inl fG2')), (oW, .inr (1, [.ref oC, .ref oK, .ref nw, .ref w1, .ref w2, .ref w3, .ref o7, .ref o8, .ref o9, .ref w4, .ref w5, .ref w6, .ref w7, .int ke, .int tl, .int fsh', .int wi, .int ri, .int fm, .int lm]))] t.heap ∧ va_D (va_A [(oX, .inr (11, [.ref nT, .ref nL, .ref nM, .ref oC, .ref oP, .ref oH, .ref oK, .ref oG, .ref oR, .ref oQ, .ref oW, .int fa])), (nL, .inr (5, [.ref aL, .int lL])), (aL, .inl (cI, 300, .inl fL)), (nM, .inr (5, [.ref aM, .int lM])), (aM, .inl (cI, 300, .inl fM)), (oG, .inr (0, [.ref g1, .ref g2, .int gn, .int lG])), (g1, .inl (cI, 6000, .inl fG1)), (g2, .inl (cI, 20, .inl fG2)), (oW, .inr (1, [.ref oC, .ref oK, .ref nw, .ref w1, .ref w2, .ref w3, .ref o7, .ref o8, .ref o9, .ref w4, .ref w5, .ref w6, .ref w7, .int ke, .int tl, .int fsh, .int wi, .int ri, .int fm, .int lm]))] sz) [(oX, .inr (11, [.ref nT, .ref nL, .ref nM, .ref oC, .ref oP, .ref oH, .ref oK, .ref oG, .ref oR, .ref oQ, .ref oW, .int fa])), (nL, .inr (5, [.ref aL, .int lL'])), (aL, .inl (cI, 300, .inl fL')), (nM, .inr (5, [.ref aM, .int lM])), (aM, .inl (cI, 300, .inl fM)), (oG, .inr (0, [.ref g1, .ref g2, .int gn', .int lG'])), (g1, .inl (cI, 6000, .inl fG1')), (g2, .inl (cI, 20, .inl fG2')), (oW, .inr (1, [.ref oC, .ref oK, .ref nw, .ref w1, .ref w2, .ref w3, .ref o7, .ref o8, .ref o9, .ref w4, .ref w5, .ref w6, .ref w7, .int ke, .int tl, .int fsh', .int wi, .int ri, .int fm, .int lm]))] ∧ (0 ≤ lL'.toInt ∧ lL'.toInt ≤ 300) ∧ (0 ≤ fsh'.toInt ∧ fsh'.toInt ≤ 1) ∧ (0 ≤ gn'.toInt ∧ gn'.toInt ≤ 19) ∧ (0 ≤ lG'.toInt ∧ lG'.toInt ≤ 20) ∧ (rg 0 300 fG2') ∧ (r.toInt = lM.toInt) ∧ (F_bC gn gn' lG lG' lL lL' lM fG1 fG1' fG2 fG2' fL fL' fM) ∧ (fsh' = 0)) (va_A [(oX, .inr (11, [.ref nT, .ref nL, .ref nM, .ref oC, .ref oP, .ref oH, .ref oK, .ref oG, .ref oR, .ref oQ, .ref oW, .int fa])), (nL, .inr (5, [.ref aL, .int lL])), (aL, .inl (cI, 300, .inl fL)), (nM, .inr (5, [.ref aM, .int lM])), (aM, .inl (cI, 300, .inl fM)), (oG, .inr (0, [.ref g1, .ref g2, .int gn, .int lG])), (g1, .inl (cI, 6000, .inl fG1)), (g2, .inl (cI, 20, .inl fG2)), (oW, .inr (1, [.ref oC, .ref oK, .ref nw, .ref w1, .ref w2, .ref w3, .ref o7, .ref o8, .ref o9, .ref w4, .ref w5, .ref w6, .ref w7, .int ke, .int tl, .int fsh, .int wi, .int ri, .int fm, .int lm]))] sz)) 0 0 (va_A [(oX, .inr (11, [.ref nT, .ref nL, .ref nM, .ref oC, .ref oP, .ref oH, .ref oK, .ref oG, .ref oR, .ref oQ, .ref oW, .int fa])), (nL, .inr (5, [.ref aL, .int lL])), (aL, .inl (cI, 300, .inl fL)), (nM, .inr (5, [.ref aM, .int lM])), (aM, .inl (cI, 300, .inl fM)), (oG, .inr (0, [.ref g1, .ref g2, .int gn, .int lG])), (g1, .inl (cI, 6000, .inl fG1)), (g2, .inl (cI, 20, .inl fG2)), (oW, .inr (1, [.ref oC, .ref oK, .ref nw, .ref w1, .ref w2, .ref w3, .ref o7, .ref o8, .ref o9, .ref w4, .ref w5, .ref w6, .ref w7, .int ke, .int tl, .int fsh, .int wi, .int ri, .int fm, .int lm]))] sz) := by
  refine Met.ofW (cc := cX11_become) (maxL := 2) (ret := (some .int)) (by decide) rfl ?_
  intro p e s m args below meth c s₁ B hml hv
  obtain ⟨rfl, hsz, hP, hK, hD0⟩ := hv
  have hx := B.exec
  have hb := B.bytes
  have hr := B.returns
  have hts := atoms_spec (ws := wsX11_become) B.pre
  have hown : s.vm.findClass RX11 = some m.cls := findClass_of_methodNamed B.named
  have hlocks := B.notSynchronized
  have in_X11 : ∀ w ∈ wsX110, w ∈ wsX11_become := fun _ h => List.mem_cons_of_mem _ (List.mem_append_left _ (List.mem_append_left _ (List.mem_append_left _ (List.mem_append_right _ (h)))))
  subst hsz
  have hD := hD0.self (sz := s.heap.size)
  generalize hAe : va_A [(oX, .inr (11, [.ref nT, .ref nL, .ref nM, .ref oC, .ref oP, .ref oH, .ref oK, .ref oG, .ref oR, .ref oQ, .ref oW, .int fa])), (nL, .inr (5, [.ref aL, .int lL])), (aL, .inl (cI, 300, .inl fL)), (nM, .inr (5, [.ref aM, .int lM])), (aM, .inl (cI, 300, .inl fM)), (oG, .inr (0, [.ref g1, .ref g2, .int gn, .int lG])), (g1, .inl (cI, 6000, .inl fG1)), (g2, .inl (cI, 20, .inl fG2)), (oW, .inr (1, [.ref oC, .ref oK, .ref nw, .ref w1, .ref w2, .ref w3, .ref o7, .ref o8, .ref o9, .ref w4, .ref w5, .ref w6, .ref w7, .int ke, .int tl, .int fsh, .int wi, .int ri, .int fm, .int lm]))] s.heap.size = A at hD ⊢
  have hA : ∀ q : Nat, s.heap.size ≤ q → A q := fun q h => by rw [← hAe]; exact Or.inr h
  have hS : va_S A s.heap s.heap [] := va_S.rf
  have hP : va_P (dC, dI) vwCl [(oX, .inr (11, [.ref nT, .ref nL, .ref nM, .ref oC, .ref oP, .ref oH, .ref oK, .ref oG, .ref oR, .ref oQ, .ref oW, .int fa])), (nL, .inr (5, [.ref aL, .int lL])), (aL, .inl (cI, 300, .inl fL)), (nM, .inr (5, [.ref aM, .int lM])), (aM, .inl (cI, 300, .inl fM)), (oG, .inr (0, [.ref g1, .ref g2, .int gn, .int lG])), (g1, .inl (cI, 6000, .inl fG1)), (g2, .inl (cI, 20, .inl fG2)), (oW, .inr (1, [.ref oC, .ref oK, .ref nw, .ref w1, .ref w2, .ref w3, .ref o7, .ref o8, .ref o9, .ref w4, .ref w5, .ref w6, .ref w7, .int ke, .int tl, .int fsh, .int wi, .int ri, .int fm, .int lm]))] s.heap := hP
  have hl := lv_entry ([.ref oX, .ref nM]) (n := 2) (Nat.le_of_ble_eq_true rfl)
  rw [lg_entry_eq]
  generalize (lg_sl ([.ref oX, .ref nM]) ++ List.replicate (2 - (lg_sl ([.ref oX, .ref nM])).length) Slot.unset).toArray = ls at hl ⊢
  have hl : lv_has ls 2 [(0, .ref oX), (1, .ref nM)] := hl
  obtain ⟨QQ, hQQ⟩ : ∃ QQ : Array Value → State → Outcome → State → Prop, QQ = va_Qi (fun (r : Int32) (u : Int32) => r = u) (fun (r : Int32) t => ∃ (lL' : Int32) (fL' : Nat → Int32) (fsh' : Int32) (gn' : Int32) (lG' : Int32) (fG1' : Nat → Int32) (fG2' : Nat → Int32), va_P (dC, dI) vwCl [(oX, .inr (11, [.ref nT, .ref nL, .ref nM, .ref oC, .ref oP, .ref oH, .ref oK, .ref oG, .ref oR, .ref oQ, .ref oW, .int fa])), (nL, .inr (5, [.ref aL, .int lL'])), (aL, .inl (cI, 300, .inl fL')), (nM, .inr (5, [.ref aM, .int lM])), (aM, .inl (cI, 300, .inl fM)), (oG, .inr (0, [.ref g1, .ref g2, .int gn', .int lG'])), (g1, .inl (cI, 6000, .inl fG1')), (g2, .inl (cI, 20, .inl fG2')), (oW, .inr (1, [.ref oC, .ref oK, .ref nw, .ref w1, .ref w2, .ref w3, .ref o7, .ref o8, .ref o9, .ref w4, .ref w5, .ref w6, .ref w7, .int ke, .int tl, .int fsh', .int wi, .int ri, .int fm, .int lm]))] t.heap ∧ va_D A [(oX, .inr (11, [.ref nT, .ref nL, .ref nM, .ref oC, .ref oP, .ref oH, .ref oK, .ref oG, .ref oR, .ref oQ, .ref oW, .int fa])), (nL, .inr (5, [.ref aL, .int lL'])), (aL, .inl (cI, 300, .inl fL')), (nM, .inr (5, [.ref aM, .int lM])), (aM, .inl (cI, 300, .inl fM)), (oG, .inr (0, [.ref g1, .ref g2, .int gn', .int lG'])), (g1, .inl (cI, 6000, .inl fG1')), (g2, .inl (cI, 20, .inl fG2')), (oW, .inr (1, [.ref oC, .ref oK, .ref nw, .ref w1, .ref w2, .ref w3, .ref o7, .ref o8, .ref o9, .ref w4, .ref w5, .ref w6, .ref w7, .int ke, .int tl, .int fsh', .int wi, .int ri, .int fm, .int lm]))] ∧ (0 ≤ lL'.toInt ∧ lL'.toInt ≤ 300) ∧ (0 ≤ fsh'.toInt ∧ fsh'.toInt ≤ 1) ∧ (0 ≤ gn'.toInt ∧ gn'.toInt ≤ 19) ∧ (0 ≤ lG'.toInt ∧ lG'.toInt ≤ 20) ∧ (rg 0 300 fG2') ∧ (r.toInt = lM.toInt) ∧ (F_bC gn gn' lG lG' lL lL' lM fG1 fG1' fG2 fG2' fL fL' fM) ∧ (fsh' = 0)) A := ⟨_, rfl⟩
  rw [← hQQ]
  refine lv_aload_n hx hb dX11_become_0 rfl (lv_at hl 0 rfl) ?_
  refine va_get (D := (dC, dI)) (ci := 11) (v := .ref oG) (C := RX11) (T := TX11) (N := 12) hx hb hts in_X11 hown hK hP 0 rfl rfl 7 (by decide) (hts (.fieldLink RX11 59 "TextMender" "changes" "LTextMender$Changes;") (List.mem_of_getElem? (i := 1) rfl)) (fun _ h9 => h9) rfl dX11_become_1 ?_
  refine lv_aload_n hx hb dX11_become_4 rfl (lv_at hl 0 rfl) ?_
  refine va_get (D := (dC, dI)) (ci := 11) (v := .ref nL) (C := RX11) (T := TX11) (N := 12) hx hb hts in_X11 hown hK hP 0 rfl rfl 1 (by decide) (hts (.fieldLink RX11 34 "TextMender" "letters" "LTextMender$Numbers;") (List.mem_of_getElem? (i := 2) rfl)) (fun _ h9 => h9) rfl dX11_become_5 ?_
  have hPc := hP.sub (ws' := [(oG, .inr (0, [.ref g1, .ref g2, .int gn, .int lG])), (g1, .inl (cI, 6000, .inl fG1)), (g2, .inl (cI, 20, .inl fG2)), (nL, .inr (5, [.ref aL, .int lL])), (aL, .inl (cI, 300, .inl fL))]) [5, 6, 7, 1, 2] rfl
  have hDc := hD.sub (ws' := [(oG, .inr (0, [.ref g1, .ref g2, .int gn, .int lG])), (g1, .inl (cI, 6000, .inl fG1)), (g2, .inl (cI, 20, .inl fG2)), (nL, .inr (5, [.ref aL, .int lL])), (aL, .inl (cI, 300, .inl fL))]) [5, 6, 7, 1, 2] (by decide +kernel) rfl
  have hFc := va_free (wc := [(oG, .inr (0, [.ref g1, .ref g2, .int gn, .int lG])), (g1, .inl (cI, 6000, .inl fG1)), (g2, .inl (cI, 20, .inl fG2)), (nL, .inr (5, [.ref aL, .int lL])), (aL, .inl (cI, 300, .inl fL))]) hD hS hA [5, 6, 7, 1, 2] rfl
  refine va_callv (va_runV (As := [.ref nL]) (rest := []) ⟨hx, hb, hml, hown, hts⟩ (f_X0_remember l dC dI cI cS s.heap.size oG nL g1 g2 aL gn lG fG1 fG2 lL fL (g_gn) (g_lG) (g_fG2) (g_lL)) (cwV 1 hts gX11_become_X0_remember rfl rfl rfl (by decide +kernel) ⟨Nat.le_of_ble_eq_true rfl, Nat.le_of_ble_eq_true rfl⟩) ⟨fun a U g mk q => by obtain ⟨q0, q1, qP, qK, qD⟩ := q; exact ⟨q0, q1, qP, va_K.moved (u := U) (U := U.calling g mk a) (Vm.Alike.refl U.vm) qK, qD⟩, va_recv hK hPc (ci := 0) (q0 := 0) rfl rfl, fun U hU hW => ⟨rfl, by rw [hU], by rw [hU]; exact hPc, va_K.moved hW.alike hK, hDc.weaken (fun _ _ _ _ => trivial)⟩⟩ rfl rfl hl.1 rfl (lv_room (Nat.le_of_ble_eq_true rfl)) dX11_become_8 ⟨Nat.le_of_ble_eq_true rfl, Nat.le_of_ble_eq_true rfl⟩) hS (fun q _ h => hFc q h) hFc (fun u t H1 locs ht hvm hw hB hz1 hk1 hSn => ?_)
  obtain ⟨gn_1, lG_1, fG1_1, fG2_1, hP1, hD1, hf1_0, hf1_1, hf1_2, hf1_3⟩ := hB
  rw [ht] at hP1
  obtain ⟨hPn, hDn⟩ := va_join (wr := [(oX, .inr (11, [.ref nT, .ref nL, .ref nM, .ref oC, .ref oP, .ref oH, .ref oK, .ref oG, .ref oR, .ref oQ, .ref oW, .int fa])), (nM, .inr (5, [.ref aM, .int lM])), (aM, .inl (cI, 300, .inl fM)), (oW, .inr (1, [.ref oC, .ref oK, .ref nw, .ref w1, .ref w2, .ref w3, .ref o7, .ref o8, .ref o9, .ref w4, .ref w5, .ref w6, .ref w7, .int ke, .int tl, .int fsh, .int wi, .int ri, .int fm, .int lm]))]) (w1 := [(oG, .inr (0, [.ref g1, .ref g2, .int gn_1, .int lG_1])), (g1, .inl (cI, 6000, .inl fG1_1)), (g2, .inl (cI, 20, .inl fG2_1)), (nL, .inr (5, [.ref aL, .int lL])), (aL, .inl (cI, 300, .inl fL))]) hP hD [5, 6, 7, 1, 2] [0, 3, 4, 8] rfl rfl (by decide +kernel) (by decide +kernel) hk1 hFc hP1 hD1
  clear hP hD hS hPc hDc hFc hk1 hz1 hvm ht hP1 hD1
  generalize H1 = H at hPn hSn ⊢
  have hP : va_P (dC, dI) vwCl [(oX, .inr (11, [.ref nT, .ref nL, .ref nM, .ref oC, .ref oP, .ref oH, .ref oK, .ref oG, .ref oR, .ref oQ, .ref oW, .int fa])), (nM, .inr (5, [.ref aM, .int lM])), (aM, .inl (cI, 300, .inl fM)), (oW, .inr (1, [.ref oC, .ref oK, .ref nw, .ref w1, .ref w2, .ref w3, .ref o7, .ref o8, .ref o9, .ref w4, .ref w5, .ref w6, .ref w7, .int ke, .int tl, .int fsh, .int wi, .int ri, .int fm, .int lm])), (oG, .inr (0, [.ref g1, .ref g2, .int gn_1, .int lG_1])), (g1, .inl (cI, 6000, .inl fG1_1)), (g2, .inl (cI, 20, .inl fG2_1)), (nL, .inr (5, [.ref aL, .int lL])), (aL, .inl (cI, 300, .inl fL))] H := hPn
  have hD : va_D A [(oX, .inr (11, [.ref nT, .ref nL, .ref nM, .ref oC, .ref oP, .ref oH, .ref oK, .ref oG, .ref oR, .ref oQ, .ref oW, .int fa])), (nM, .inr (5, [.ref aM, .int lM])), (aM, .inl (cI, 300, .inl fM)), (oW, .inr (1, [.ref oC, .ref oK, .ref nw, .ref w1, .ref w2, .ref w3, .ref o7, .ref o8, .ref o9, .ref w4, .ref w5, .ref w6, .ref w7, .int ke, .int tl, .int fsh, .int wi, .int ri, .int fm, .int lm])), (oG, .inr (0, [.ref g1, .ref g2, .int gn_1, .int lG_1])), (g1, .inl (cI, 6000, .inl fG1_1)), (g2, .inl (cI, 20, .inl fG2_1)), (nL, .inr (5, [.ref aL, .int lL])), (aL, .inl (cI, 300, .inl fL))] := hDn
  have hS := hSn
  clear hPn hDn hSn
  refine lv_aload_n hx hb dX11_become_11 rfl (lv_at hl 0 rfl) ?_
  refine va_get (D := (dC, dI)) (ci := 11) (v := .ref nL) (C := RX11) (T := TX11) (N := 12) hx hb hts in_X11 hown hK hP 0 rfl rfl 1 (by decide) (hts (.fieldLink RX11 34 "TextMender" "letters" "LTextMender$Numbers;") (List.mem_of_getElem? (i := 2) rfl)) (fun _ h9 => h9) rfl dX11_become_12 ?_
  refine lv_aload_n hx hb dX11_become_15 rfl (lv_at hl 1 rfl) ?_
  have hPc := hP.sub (ws' := [(nL, .inr (5, [.ref aL, .int lL])), (aL, .inl (cI, 300, .inl fL)), (nM, .inr (5, [.ref aM, .int lM])), (aM, .inl (cI, 300, .inl fM))]) [7, 8, 1, 2] rfl
  have hDc := hD.sub (ws' := [(nL, .inr (5, [.ref aL, .int lL])), (aL, .inl (cI, 300, .inl fL)), (nM, .inr (5, [.ref aM, .int lM])), (aM, .inl (cI, 300, .inl fM))]) [7, 8, 1, 2] (by decide +kernel) rfl
  have hFc := va_free (wc := [(nL, .inr (5, [.ref aL, .int lL])), (aL, .inl (cI, 300, .inl fL)), (nM, .inr (5, [.ref aM, .int lM])), (aM, .inl (cI, 300, .inl fM))]) hD hS hA [7, 8, 1, 2] rfl
  refine va_calli (va_runV (As := [.ref nM]) (rest := []) ⟨hx, hb, hml, hown, hts⟩ (m_X5_takeAll l dC dI cI cS H.size nL nM aL aM 300 300 lL fL lM fM (by omega) (by omega) (by omega) (by omega)) (cwV 1 hts gX11_become_X5_takeAll rfl rfl rfl (by decide +kernel) ⟨Nat.le_of_ble_eq_true rfl, Nat.le_of_ble_eq_true rfl⟩) ⟨fun a U g mk q => by obtain ⟨q0, q1, qP, qK, qD⟩ := q; exact ⟨q0, q1, qP, va_K.moved (u := U) (U := U.calling g mk a) (Vm.Alike.refl U.vm) qK, qD⟩, va_recv hK hPc (ci := 5) (q0 := 0) rfl rfl, fun U hU hW => ⟨rfl, by rw [hU], by rw [hU]; exact hPc, va_K.moved hW.alike hK, hDc.weaken (fun _ _ _ _ => trivial)⟩⟩ rfl rfl hl.1 rfl (lv_room (Nat.le_of_ble_eq_true rfl)) dX11_become_16 ⟨Nat.le_of_ble_eq_true rfl, Nat.le_of_ble_eq_true rfl⟩) hS (fun q _ h => hFc q h) hFc (fun r_2 u t H1 locs ht hvm hw hB hz1 hk1 hSn => ?_)
  subst hw
  obtain ⟨lu_2, fu_2, hP1, hD1, hf2_0, hf2_1, hf2_2⟩ := hB
  rw [ht] at hP1
  obtain ⟨hPn, hDn⟩ := va_join (wr := [(oX, .inr (11, [.ref nT, .ref nL, .ref nM, .ref oC, .ref oP, .ref oH, .ref oK, .ref oG, .ref oR, .ref oQ, .ref oW, .int fa])), (oW, .inr (1, [.ref oC, .ref oK, .ref nw, .ref w1, .ref w2, .ref w3, .ref o7, .ref o8, .ref o9, .ref w4, .ref w5, .ref w6, .ref w7, .int ke, .int tl, .int fsh, .int wi, .int ri, .int fm, .int lm])), (oG, .inr (0, [.ref g1, .ref g2, .int gn_1, .int lG_1])), (g1, .inl (cI, 6000, .inl fG1_1)), (g2, .inl (cI, 20, .inl fG2_1))]) (w1 := [(nL, .inr (5, [.ref aL, .int lu_2])), (aL, .inl (cI, 300, .inl fu_2)), (nM, .inr (5, [.ref aM, .int lM])), (aM, .inl (cI, 300, .inl fM))]) hP hD [7, 8, 1, 2] [0, 3, 4, 5, 6] rfl rfl (by decide +kernel) (by decide +kernel) hk1 hFc hP1 hD1
  clear hP hD hS hPc hDc hFc hk1 hz1 hvm ht hP1 hD1
  generalize H1 = H at hPn hSn ⊢
  have hP : va_P (dC, dI) vwCl [(oX, .inr (11, [.ref nT, .ref nL, .ref nM, .ref oC, .ref oP, .ref oH, .ref oK, .ref oG, .ref oR, .ref oQ, .ref oW, .int fa])), (oW, .inr (1, [.ref oC, .ref oK, .ref nw, .ref w1, .ref w2, .ref w3, .ref o7, .ref o8, .ref o9, .ref w4, .ref w5, .ref w6, .ref w7, .int ke, .int tl, .int fsh, .int wi, .int ri, .int fm, .int lm])), (oG, .inr (0, [.ref g1, .ref g2, .int gn_1, .int lG_1])), (g1, .inl (cI, 6000, .inl fG1_1)), (g2, .inl (cI, 20, .inl fG2_1)), (nL, .inr (5, [.ref aL, .int lu_2])), (aL, .inl (cI, 300, .inl fu_2)), (nM, .inr (5, [.ref aM, .int lM])), (aM, .inl (cI, 300, .inl fM))] H := hPn
  have hD : va_D A [(oX, .inr (11, [.ref nT, .ref nL, .ref nM, .ref oC, .ref oP, .ref oH, .ref oK, .ref oG, .ref oR, .ref oQ, .ref oW, .int fa])), (oW, .inr (1, [.ref oC, .ref oK, .ref nw, .ref w1, .ref w2, .ref w3, .ref o7, .ref o8, .ref o9, .ref w4, .ref w5, .ref w6, .ref w7, .int ke, .int tl, .int fsh, .int wi, .int ri, .int fm, .int lm])), (oG, .inr (0, [.ref g1, .ref g2, .int gn_1, .int lG_1])), (g1, .inl (cI, 6000, .inl fG1_1)), (g2, .inl (cI, 20, .inl fG2_1)), (nL, .inr (5, [.ref aL, .int lu_2])), (aL, .inl (cI, 300, .inl fu_2)), (nM, .inr (5, [.ref aM, .int lM])), (aM, .inl (cI, 300, .inl fM))] := hDn
  have hS := hSn
  clear hPn hDn hSn
  have ha2 : lu_2.toInt = lM.toInt := (addAll_cp hf2_2 (by omega) (by omega)).1
  refine lv_pop hx hb dX11_become_19 rfl ?_
  refine lv_aload_n hx hb dX11_become_20 rfl (lv_at hl 0 rfl) ?_
  refine va_get (D := (dC, dI)) (ci := 11) (v := .ref oW) (C := RX11) (T := TX11) (N := 12) hx hb hts in_X11 hown hK hP 0 rfl rfl 10 (by decide) (hts (.fieldLink RX11 86 "TextMender" "choiceBook" "LTextMender$Choices;") (List.mem_of_getElem? (i := 3) rfl)) (fun _ h9 => h9) rfl dX11_become_21 ?_
  have hPc := hP.sub (ws' := [(oW, .inr (1, [.ref oC, .ref oK, .ref nw, .ref w1, .ref w2, .ref w3, .ref o7, .ref o8, .ref o9, .ref w4, .ref w5, .ref w6, .ref w7, .int ke, .int tl, .int fsh, .int wi, .int ri, .int fm, .int lm]))]) [1] rfl
  have hDc := hD.sub (ws' := [(oW, .inr (1, [.ref oC, .ref oK, .ref nw, .ref w1, .ref w2, .ref w3, .ref o7, .ref o8, .ref o9, .ref w4, .ref w5, .ref w6, .ref w7, .int ke, .int tl, .int fsh, .int wi, .int ri, .int fm, .int lm]))]) [1] (by decide +kernel) rfl
  have hFc := va_free (wc := [(oW, .inr (1, [.ref oC, .ref oK, .ref nw, .ref w1, .ref w2, .ref w3, .ref o7, .ref o8, .ref o9, .ref w4, .ref w5, .ref w6, .ref w7, .int ke, .int tl, .int fsh, .int wi, .int ri, .int fm, .int lm]))]) hD hS hA [1] rfl
  refine va_callv (va_runV (As := []) (rest := []) ⟨hx, hb, hml, hown, hts⟩ (f_X1_forgetFreshness l dC dI cI cS H.size oW oC oK nw w1 w2 w3 o7 o8 o9 w4 w5 w6 w7 ke tl fsh wi ri fm lm (g_ke) (g_fsh) (g_fm) (g_lm)) (cwV 0 hts gX11_become_X1_forgetFreshness rfl rfl rfl (by decide +kernel) ⟨Nat.le_of_ble_eq_true rfl, Nat.le_of_ble_eq_true rfl⟩) ⟨fun a U g mk q => by obtain ⟨q0, q1, qP, qK, qD⟩ := q; exact ⟨q0, q1, qP, va_K.moved (u := U) (U := U.calling g mk a) (Vm.Alike.refl U.vm) qK, qD⟩, va_recv hK hPc (ci := 1) (q0 := 0) rfl rfl, fun U hU hW => ⟨rfl, by rw [hU], by rw [hU]; exact hPc, va_K.moved hW.alike hK, hDc.weaken (fun _ _ _ _ => trivial)⟩⟩ rfl rfl hl.1 rfl (lv_room (Nat.le_of_ble_eq_true rfl)) dX11_become_24 ⟨Nat.le_of_ble_eq_true rfl, Nat.le_of_ble_eq_true rfl⟩) hS (fun q _ h => hFc q h) hFc (fun u t H1 locs ht hvm hw hB hz1 hk1 hSn => ?_)
  obtain ⟨fsh_3, hP1, hD1, hf3_0, hf3_1⟩ := hB
  rw [ht] at hP1
  obtain ⟨hPn, hDn⟩ := va_join (wr := [(oX, .inr (11, [.ref nT, .ref nL, .ref nM, .ref oC, .ref oP, .ref oH, .ref oK, .ref oG, .ref oR, .ref oQ, .ref oW, .int fa])), (oG, .inr (0, [.ref g1, .ref g2, .int gn_1, .int lG_1])), (g1, .inl (cI, 6000, .inl fG1_1)), (g2, .inl (cI, 20, .inl fG2_1)), (nL, .inr (5, [.ref aL, .int lu_2])), (aL, .inl (cI, 300, .inl fu_2)), (nM, .inr (5, [.ref aM, .int lM])), (aM, .inl (cI, 300, .inl fM))]) (w1 := [(oW, .inr (1, [.ref oC, .ref oK, .ref nw, .ref w1, .ref w2, .ref w3, .ref o7, .ref o8, .ref o9, .ref w4, .ref w5, .ref w6, .ref w7, .int ke, .int tl, .int fsh_3, .int wi, .int ri, .int fm, .int lm]))]) hP hD [1] [0, 2, 3, 4, 5, 6, 7, 8] rfl rfl (by decide +kernel) (by decide +kernel) hk1 hFc hP1 hD1
  clear hP hD hS hPc hDc hFc hk1 hz1 hvm ht hP1 hD1
  generalize H1 = H at hPn hSn ⊢
  have hP : va_P (dC, dI) vwCl [(oX, .inr (11, [.ref nT, .ref nL, .ref nM, .ref oC, .ref oP, .ref oH, .ref oK, .ref oG, .ref oR, .ref oQ, .ref oW, .int fa])), (oG, .inr (0, [.ref g1, .ref g2, .int gn_1, .int lG_1])), (g1, .inl (cI, 6000, .inl fG1_1)), (g2, .inl (cI, 20, .inl fG2_1)), (nL, .inr (5, [.ref aL, .int lu_2])), (aL, .inl (cI, 300, .inl fu_2)), (nM, .inr (5, [.ref aM, .int lM])), (aM, .inl (cI, 300, .inl fM)), (oW, .inr (1, [.ref oC, .ref oK, .ref nw, .ref w1, .ref w2, .ref w3, .ref o7, .ref o8, .ref o9, .ref w4, .ref w5, .ref w6, .ref w7, .int ke, .int tl, .int fsh_3, .int wi, .int ri, .int fm, .int lm]))] H := hPn
  have hD : va_D A [(oX, .inr (11, [.ref nT, .ref nL, .ref nM, .ref oC, .ref oP, .ref oH, .ref oK, .ref oG, .ref oR, .ref oQ, .ref oW, .int fa])), (oG, .inr (0, [.ref g1, .ref g2, .int gn_1, .int lG_1])), (g1, .inl (cI, 6000, .inl fG1_1)), (g2, .inl (cI, 20, .inl fG2_1)), (nL, .inr (5, [.ref aL, .int lu_2])), (aL, .inl (cI, 300, .inl fu_2)), (nM, .inr (5, [.ref aM, .int lM])), (aM, .inl (cI, 300, .inl fM)), (oW, .inr (1, [.ref oC, .ref oK, .ref nw, .ref w1, .ref w2, .ref w3, .ref o7, .ref o8, .ref o9, .ref w4, .ref w5, .ref w6, .ref w7, .int ke, .int tl, .int fsh_3, .int wi, .int ri, .int fm, .int lm]))] := hDn
  have hS := hSn
  clear hPn hDn hSn
  refine lv_aload_n hx hb dX11_become_27 rfl (lv_at hl 0 rfl) ?_
  refine va_get (D := (dC, dI)) (ci := 11) (v := .ref nL) (C := RX11) (T := TX11) (N := 12) hx hb hts in_X11 hown hK hP 0 rfl rfl 1 (by decide) (hts (.fieldLink RX11 34 "TextMender" "letters" "LTextMender$Numbers;") (List.mem_of_getElem? (i := 2) rfl)) (fun _ h9 => h9) rfl dX11_become_28 ?_
  have hPc := hP.sub (ws' := [(nL, .inr (5, [.ref aL, .int lu_2]))]) [4] rfl
  have hDc := hD.sub (ws' := [(nL, .inr (5, [.ref aL, .int lu_2]))]) [4] (by decide +kernel) rfl
  have hFc := va_free (wc := [(nL, .inr (5, [.ref aL, .int lu_2]))]) hD hS hA [4] rfl
  refine va_calli (va_runV (As := []) (rest := []) ⟨hx, hb, hml, hown, hts⟩ (m_X5_length l dC dI cI cS H.size nL aL lu_2 ) (cwV 0 hts gX11_become_X5_length rfl rfl rfl (by decide +kernel) ⟨Nat.le_of_ble_eq_true rfl, Nat.le_of_ble_eq_true rfl⟩) ⟨fun a U g mk q => by obtain ⟨q0, q1, qP, qK, qD⟩ := q; exact ⟨q0, q1, qP, va_K.moved (u := U) (U := U.calling g mk a) (Vm.Alike.refl U.vm) qK, qD⟩, va_recv hK hPc (ci := 5) (q0 := 0) rfl rfl, fun U hU hW => ⟨rfl, by rw [hU], by rw [hU]; exact hPc, va_K.moved hW.alike hK, hDc.weaken (fun _ _ _ _ => trivial)⟩⟩ rfl rfl hl.1 rfl (lv_room (Nat.le_of_ble_eq_true rfl)) dX11_become_31 ⟨Nat.le_of_ble_eq_true rfl, Nat.le_of_ble_eq_true rfl⟩) hS (fun q _ h => hFc q h) hFc (fun r_4 u t H1 locs ht hvm hw hB hz1 hk1 hSn => ?_)
  subst hw
  obtain ⟨hP1, hD1, hf4_0⟩ := hB
  rw [ht] at hP1
  obtain ⟨hPn, hDn⟩ := va_join (wr := [(oX, .inr (11, [.ref nT, .ref nL, .ref nM, .ref oC, .ref oP, .ref oH, .ref oK, .ref oG, .ref oR, .ref oQ, .ref oW, .int fa])), (oG, .inr (0, [.ref g1, .ref g2, .int gn_1, .int lG_1])), (g1, .inl (cI, 6000, .inl fG1_1)), (g2, .inl (cI, 20, .inl fG2_1)), (aL, .inl (cI, 300, .inl fu_2)), (nM, .inr (5, [.ref aM, .int lM])), (aM, .inl (cI, 300, .inl fM)), (oW, .inr (1, [.ref oC, .ref oK, .ref nw, .ref w1, .ref w2, .ref w3, .ref o7, .ref o8, .ref o9, .ref w4, .ref w5, .ref w6, .ref w7, .int ke, .int tl, .int fsh_3, .int wi, .int ri, .int fm, .int lm]))]) (w1 := [(nL, .inr (5, [.ref aL, .int lu_2]))]) hP hD [4] [0, 1, 2, 3, 5, 6, 7, 8] rfl rfl (by decide +kernel) (by decide +kernel) hk1 hFc hP1 hD1
  clear hP hD hS hPc hDc hFc hk1 hz1 hvm ht hP1 hD1
  generalize H1 = H at hPn hSn ⊢
  have hP : va_P (dC, dI) vwCl [(oX, .inr (11, [.ref nT, .ref nL, .ref nM, .ref oC, .ref oP, .ref oH, .ref oK, .ref oG, .ref oR, .ref oQ, .ref oW, .int fa])), (oG, .inr (0, [.ref g1, .ref g2, .int gn_1, .int lG_1])), (g1, .inl (cI, 6000, .inl fG1_1)), (g2, .inl (cI, 20, .inl fG2_1)), (aL, .inl (cI, 300, .inl fu_2)), (nM, .inr (5, [.ref aM, .int lM])), (aM, .inl (cI, 300, .inl fM)), (oW, .inr (1, [.ref oC, .ref oK, .ref nw, .ref w1, .ref w2, .ref w3, .ref o7, .ref o8, .ref o9, .ref w4, .ref w5, .ref w6, .ref w7, .int ke, .int tl, .int fsh_3, .int wi, .int ri, .int fm, .int lm])), (nL, .inr (5, [.ref aL, .int lu_2]))] H := hPn
  have hD : va_D A [(oX, .inr (11, [.ref nT, .ref nL, .ref nM, .ref oC, .ref oP, .ref oH, .ref oK, .ref oG, .ref oR, .ref oQ, .ref oW, .int fa])), (oG, .inr (0, [.ref g1, .ref g2, .int gn_1, .int lG_1])), (g1, .inl (cI, 6000, .inl fG1_1)), (g2, .inl (cI, 20, .inl fG2_1)), (aL, .inl (cI, 300, .inl fu_2)), (nM, .inr (5, [.ref aM, .int lM])), (aM, .inl (cI, 300, .inl fM)), (oW, .inr (1, [.ref oC, .ref oK, .ref nw, .ref w1, .ref w2, .ref w3, .ref o7, .ref o8, .ref o9, .ref w4, .ref w5, .ref w6, .ref w7, .int ke, .int tl, .int fsh_3, .int wi, .int ri, .int fm, .int lm])), (nL, .inr (5, [.ref aL, .int lu_2]))] := hDn
  have hS := hSn
  clear hPn hDn hSn
  rw [hf4_0]
  have hP9 := hP.sub (ws' := [(oX, .inr (11, [.ref nT, .ref nL, .ref nM, .ref oC, .ref oP, .ref oH, .ref oK, .ref oG, .ref oR, .ref oQ, .ref oW, .int fa])), (nL, .inr (5, [.ref aL, .int lu_2])), (aL, .inl (cI, 300, .inl fu_2)), (nM, .inr (5, [.ref aM, .int lM])), (aM, .inl (cI, 300, .inl fM)), (oG, .inr (0, [.ref g1, .ref g2, .int gn_1, .int lG_1])), (g1, .inl (cI, 6000, .inl fG1_1)), (g2, .inl (cI, 20, .inl fG2_1)), (oW, .inr (1, [.ref oC, .ref oK, .ref nw, .ref w1, .ref w2, .ref w3, .ref o7, .ref o8, .ref o9, .ref w4, .ref w5, .ref w6, .ref w7, .int ke, .int tl, .int fsh_3, .int wi, .int ri, .int fm, .int lm]))]) [0, 8, 4, 5, 6, 1, 2, 3, 7] rfl
  have hD9 := hD.sub (ws' := [(oX, .inr (11, [.ref nT, .ref nL, .ref nM, .ref oC, .ref oP, .ref oH, .ref oK, .ref oG, .ref oR, .ref oQ, .ref oW, .int fa])), (nL, .inr (5, [.ref aL, .int lu_2])), (aL, .inl (cI, 300, .inl fu_2)), (nM, .inr (5, [.ref aM, .int lM])), (aM, .inl (cI, 300, .inl fM)), (oG, .inr (0, [.ref g1, .ref g2, .int gn_1, .int lG_1])), (g1, .inl (cI, 6000, .inl fG1_1)), (g2, .inl (cI, 20, .inl fG2_1)), (oW, .inr (1, [.ref oC, .ref oK, .ref nw, .ref w1, .ref w2, .ref w3, .ref o7, .ref o8, .ref o9, .ref w4, .ref w5, .ref w6, .ref w7, .int ke, .int tl, .int fsh_3, .int wi, .int ri, .int fm, .int lm]))]) [0, 8, 4, 5, 6, 1, 2, 3, 7] (by decide +kernel) rfl
  rw [hQQ]
  exact W.iret (v := lu_2) hx hb hr (fun t ht hW => ⟨⟨lu_2, lu_2, rfl, rfl, ⟨lu_2, fu_2, fsh_3, gn_1, lG_1, fG1_1, fG2_1, by rw [ht]; exact hP9, hD9, by omega, hf3_0, hf1_0, hf1_1, hf1_2, by show lu_2.toInt = lM.toInt; omega, ⟨hf1_3, (addAll_cp hf2_2 (by omega) (by omega)).1, (addAll_cp hf2_2 (by omega) (by omega)).2⟩, hf3_1⟩⟩, hS.F ht⟩) hS.2.2 dX11_become_34

def tbk (i b : Int) (l : Int32) (f f1 : Nat → Int32) : Prop := l.toInt = i ∧ ∀ j : Nat, (j : Int) < i → f j = f1 (b.toNat + j)
theorem tbk_s {b : Int} {i i' l l' r a x : Int32} {f f' f1 : Nat → Int32} (h : tbk i.toInt b l f f1) (ex : x = f1 a.toNatClampNeg) (ha : F_add 300 l l' r f f' x) (hi : 0 ≤ i.toInt) (h3 : i.toInt < 300) (hb : 0 ≤ b) (hx : a.toInt = b + i.toInt) (hi' : i'.toInt = i.toInt + 1) : tbk i'.toInt b l' f' f1 := by
  obtain ⟨a1, a2⟩ := h
  have c : l.toNatClampNeg = i.toInt.toNat := ix_eq (by omega)
  have ca : a.toNatClampNeg = b.toNat + i.toInt.toNat := ix_eq (by omega)
  refine ⟨by rw [F_add_l ha (by omega)]; omega, fun j hj => ?_⟩
  rw [F_add_f ha (by omega), c]
  by_cases z : j = i.toInt.toNat
  · rw [z, pk_us, ex, ca]
  · rw [pk_un z]; exact a2 j (by omega)
theorem tb_of {r gn gn' lG lG' l l' i x : Int32} {f1 f2 f f' : Nat → Int32} (hr : r.toInt = 1) (h1 : 1 ≤ lG.toInt) (h2 : lG'.toInt = lG.toInt - 1) (h3 : gn'.toInt = (gn.toInt + 19) % 20) (h4 : 0 ≤ gn'.toInt) (ex : x = f2 gn'.toNatClampNeg) (h : tbk i.toInt (300 * gn'.toInt) l' f' f1) (hi : i.toInt = x.toInt) : F_tbC r gn gn' lG lG' l l' f1 f2 f f' := by
  have c := v_clamp h4
  refine Or.inl ⟨hr, h1, h2, h3, by rw [h.1, ← ex]; exact hi, fun j hj => ?_⟩
  have q := h.2 j (by rw [← h.1]; exact hj)
  have e : (300 * gn'.toInt).toNat = 300 * gn'.toNatClampNeg := by omega
  rw [e] at q
  exact q

set_option maxHeartbeats 40000000 in
set_option maxRecDepth 100000 in
theorem f_X0_takeBack (l : Launch) (dC : Nat → ClassId) (dI : Nat → Nat → Nat) (cI cS : ClassId) (sz : Nat) (oG : Nat) (nd : Nat) (g1 : Nat) (g2 : Nat) (ad : Nat) (gn : Int32) (lG : Int32) (fG1 : Nat → Int32) (fG2 : Nat → Int32) (ld : Int32) (fd : Nat → Int32) (g_gn : 0 ≤ gn.toInt ∧ gn.toInt ≤ 19) (g_lG : 0 ≤ lG.toInt ∧ lG.toInt ≤ 20) (g_fG2 : rg 0 300 fG2) (g_ld : 0 ≤ ld.toInt ∧ ld.toInt ≤ 300) : Met l yX0_takeBack wsX0_takeBack ({ frames := 1, cells := 0, slots := 0, locals := 21 } : Room) (va_Pc [.ref oG, .ref nd] (fun U => U.heap.size = sz ∧ va_P (dC, dI) vwCl [(oG, .inr (0, [.ref g1, .ref g2, .int gn, .int lG])), (g1, .inl (cI, 6000, .inl fG1)), (g2, .inl (cI, 20, .inl fG2)), (nd, .inr (5, [.ref ad, .int ld])), (ad, .inl (cI, 300, .inl fd))] U.heap ∧ va_K (dC, dI) vwCl [(cI, .int), (cS, .short)] U ∧ va_D (fun _ => True) [(oG, .inr (0, [.ref g1, .ref g2, .int gn, .int lG])), (g1, .inl (cI, 6000, .inl fG1)), (g2, .inl (cI, 20, .inl fG2)), (nd, .inr (5, [.ref ad, .int ld])), (ad, .inl (cI, 300, .inl fd))])) (va_Qi (fun (r : Int32) (u : Int32) => r = u) (fun (r : Int32) t => ∃ (gn' : Int32) (lG' : Int32) (ld' : Int32) (fd' : Nat → Int32), va_P (dC, dI) vwCl [(oG, .inr (0, [.ref g1, .ref g2, .int gn', .int lG'])), (g1, .inl (cI, 6000, .inl fG1)), (g2, .inl (cI, 20, .inl fG2)), (nd, .inr (5, [.ref ad, .int ld'])), (ad, .inl (cI, 300, .inl fd'))] t.heap ∧ va_D (va_A [(oG, .inr (0, [.ref g1, .ref g2, .int gn, .int lG])), (g1, .inl (cI, 6000, .inl fG1)), (g2, .inl (cI, 20, .inl fG2)), (nd, .inr (5, [.ref ad, .int ld])), (ad, .inl (cI, 300, .inl fd))] sz) [(oG, .inr (0, [.ref g1, .ref g2, .int gn', .int lG'])), (g1, .inl (cI, 6000, .inl fG1)), (g2, .inl (cI, 20, .inl fG2)), (nd, .inr (5, [.ref ad, .int ld'])), (ad, .inl (cI, 300, .inl fd'))] ∧ (0 ≤ gn'.toInt ∧ gn'.toInt ≤ 19) ∧ (0 ≤ lG'.toInt ∧ lG'.toInt ≤ 20) ∧ (0 ≤ ld'.toInt ∧ ld'.toInt ≤ 300) ∧ (0 ≤ r.toInt ∧ r.toInt ≤ 1) ∧ (F_tbC r gn gn' lG lG' ld ld' fG1 fG2 fd fd')) (va_A [(oG, .inr (0, [.ref g1, .ref g2, .int gn, .int lG])), (g1, .inl (cI, 6000, .inl fG1)), (g2, .inl (cI, 20, .inl fG2)), (nd, .inr (5, [.ref ad, .int ld])), (ad, .inl (cI, 300, .inl fd))] sz)) 0 0 (va_A [(oG, .inr (0, [.ref g1, .ref g2, .int gn, .int lG])), (g1, .inl (cI, 6000, .inl fG1)), (g2, .inl (cI, 20, .inl fG2)), (nd, .inr (5, [.ref ad, .int ld])), (ad, .inl (cI, 300, .inl fd))] sz) := by
  refine Met.ofW (cc := cX0_takeBack) (maxL := 3) (ret := (some .boolean)) (by decide) rfl ?_
  intro p e s m args below meth c s₁ B hml hv
  obtain ⟨rfl, hsz, hP, hK, hD0⟩ := hv
  have hx := B.exec
  have hb := B.bytes
  have hr := B.returns
  have hts := atoms_spec (ws := wsX0_takeBack) B.pre
  have hown : s.vm.findClass RX0 = some m.cls := findClass_of_methodNamed B.named
  have hlocks := B.notSynchronized
  have in_X0 : ∀ w ∈ wsX00, w ∈ wsX0_takeBack := fun _ h => List.mem_cons_of_mem _ (List.mem_append_left _ (List.mem_append_right _ (h)))
  subst hsz
  have hD := hD0.self (sz := s.heap.size)
  generalize hAe : va_A [(oG, .inr (0, [.ref g1, .ref g2, .int gn, .int lG])), (g1, .inl (cI, 6000, .inl fG1)), (g2, .inl (cI, 20, .inl fG2)), (nd, .inr (5, [.ref ad, .int ld])), (ad, .inl (cI, 300, .inl fd))] s.heap.size = A at hD ⊢
  have hA : ∀ q : Nat, s.heap.size ≤ q → A q := fun q h => by rw [← hAe]; exact Or.inr h
  have hS : va_S A s.heap s.heap [] := va_S.rf
  have hP : va_P (dC, dI) vwCl [(oG, .inr (0, [.ref g1, .ref g2, .int gn, .int lG])), (g1, .inl (cI, 6000, .inl fG1)), (g2, .inl (cI, 20, .inl fG2)), (nd, .inr (5, [.ref ad, .int ld])), (ad, .inl (cI, 300, .inl fd))] s.heap := hP
  have hl := lv_entry ([.ref oG, .ref nd]) (n := 3) (Nat.le_of_ble_eq_true rfl)
  rw [lg_entry_eq]
  generalize (lg_sl ([.ref oG, .ref nd]) ++ List.replicate (3 - (lg_sl ([.ref oG, .ref nd])).length) Slot.unset).toArray = ls at hl ⊢
  have hl : lv_has ls 3 [(0, .ref oG), (1, .ref nd)] := hl
  obtain ⟨QQ, hQQ⟩ : ∃ QQ : Array Value → State → Outcome → State → Prop, QQ = va_Qi (fun (r : Int32) (u : Int32) => r = u) (fun (r : Int32) t => ∃ (gn' : Int32) (lG' : Int32) (ld' : Int32) (fd' : Nat → Int32), va_P (dC, dI) vwCl [(oG, .inr (0, [.ref g1, .ref g2, .int gn', .int lG'])), (g1, .inl (cI, 6000, .inl fG1)), (g2, .inl (cI, 20, .inl fG2)), (nd, .inr (5, [.ref ad, .int ld'])), (ad, .inl (cI, 300, .inl fd'))] t.heap ∧ va_D A [(oG, .inr (0, [.ref g1, .ref g2, .int gn', .int lG'])), (g1, .inl (cI, 6000, .inl fG1)), (g2, .inl (cI, 20, .inl fG2)), (nd, .inr (5, [.ref ad, .int ld'])), (ad, .inl (cI, 300, .inl fd'))] ∧ (0 ≤ gn'.toInt ∧ gn'.toInt ≤ 19) ∧ (0 ≤ lG'.toInt ∧ lG'.toInt ≤ 20) ∧ (0 ≤ ld'.toInt ∧ ld'.toInt ≤ 300) ∧ (0 ≤ r.toInt ∧ r.toInt ≤ 1) ∧ (F_tbC r gn gn' lG lG' ld ld' fG1 fG2 fd fd')) A := ⟨_, rfl⟩
  rw [← hQQ]
  have z19 : (19 : Int32).toInt = 19 := rfl
  have z0 : (0 : Int32).toInt = 0 := rfl
  refine lv_aload_n hx hb dX0_takeBack_0 rfl (lv_at hl 0 rfl) ?_
  refine va_get (D := (dC, dI)) (ci := 0) (v := .int lG) (C := RX0) (T := TX0) (N := 4) hx hb hts in_X0 hown hK hP 0 rfl rfl 3 (by decide) (hts (.fieldLink RX0 22 "TextMender$Changes" "length" "I") (List.mem_of_getElem? (i := 1) rfl)) (fun _ h9 => h9) rfl dX0_takeBack_1 ?_
  refine lv_if_ne (tgt := 9) hx hb dX0_takeBack_4 (by decide) (fun c_1 => ?_) (fun c_1 => ?_)
  · have tc_1 : ¬ lG.toInt = 0 := v_ne c_1
    refine lv_aload_n hx hb dX0_takeBack_9 rfl (lv_at hl 0 rfl) ?_
    refine lv_aload_n hx hb dX0_takeBack_10 rfl (lv_at hl 0 rfl) ?_
    refine va_get (D := (dC, dI)) (ci := 0) (v := .int gn) (C := RX0) (T := TX0) (N := 4) hx hb hts in_X0 hown hK hP 0 rfl rfl 2 (by decide) (hts (.fieldLink RX0 18 "TextMender$Changes" "next" "I") (List.mem_of_getElem? (i := 2) rfl)) (fun _ h9 => h9) rfl dX0_takeBack_11 ?_
    refine lv_if_ne (tgt := 22) hx hb dX0_takeBack_14 (by decide) (fun c_2 => ?_) (fun c_2 => ?_)
    · have tc_2 : ¬ gn.toInt = 0 := v_ne c_2
      refine lv_aload_n hx hb dX0_takeBack_22 rfl (lv_at hl 0 rfl) ?_
      refine va_get (D := (dC, dI)) (ci := 0) (v := .int gn) (C := RX0) (T := TX0) (N := 4) hx hb hts in_X0 hown hK hP 0 rfl rfl 2 (by decide) (hts (.fieldLink RX0 18 "TextMender$Changes" "next" "I") (List.mem_of_getElem? (i := 2) rfl)) (fun _ h9 => h9) rfl dX0_takeBack_23 ?_
      refine lv_iconst (v := 1) hx hb dX0_takeBack_26 (by decide) ?_
      refine lv_isub hx hb dX0_takeBack_27 ?_
      refine lv_topi (fun x_3 ex_3 => ?_)
      have tx_3 : x_3.toInt = gn.toInt - 1 := v_sub ex_3 (by show -2147483648 ≤ gn.toInt - 1; omega) (by show gn.toInt - 1 < 2147483648; omega)
      refine va_put (D := (dC, dI)) (ci := 0) (v := .int x_3) (ty := .int) (C := RX0) (T := TX0) (N := 4) hx hb hts in_X0 tyX0 tyX0_ok nmX0 hown hK hP hD hS 0 rfl rfl 2 (by decide) (hts (.fieldLink RX0 18 "TextMender$Changes" "next" "I") (List.mem_of_getElem? (i := 2) rfl)) (fun _ h9 => h9) rfl (by decide +kernel) rfl rfl (Nat.le_of_ble_eq_true rfl) dX0_takeBack_28 (fun H locs hPn hDn hSn => ?_)
      clear hP hD hS
      have hP : va_P (dC, dI) vwCl [(oG, .inr (0, [.ref g1, .ref g2, .int x_3, .int lG])), (g1, .inl (cI, 6000, .inl fG1)), (g2, .inl (cI, 20, .inl fG2)), (nd, .inr (5, [.ref ad, .int ld])), (ad, .inl (cI, 300, .inl fd))] H := hPn
      have hD : va_D A [(oG, .inr (0, [.ref g1, .ref g2, .int x_3, .int lG])), (g1, .inl (cI, 6000, .inl fG1)), (g2, .inl (cI, 20, .inl fG2)), (nd, .inr (5, [.ref ad, .int ld])), (ad, .inl (cI, 300, .inl fd))] := hDn
      have hS := hSn
      clear hPn hDn hSn
      refine lv_aload_n hx hb dX0_takeBack_31 rfl (lv_at hl 0 rfl) ?_
      refine lv_dup hx hb dX0_takeBack_32 rfl ?_
      refine va_get (D := (dC, dI)) (ci := 0) (v := .int lG) (C := RX0) (T := TX0) (N := 4) hx hb hts in_X0 hown hK hP 0 rfl rfl 3 (by decide) (hts (.fieldLink RX0 22 "TextMender$Changes" "length" "I") (List.mem_of_getElem? (i := 1) rfl)) (fun _ h9 => h9) rfl dX0_takeBack_33 ?_
      refine lv_iconst (v := 1) hx hb dX0_takeBack_36 (by decide) ?_
      refine lv_isub hx hb dX0_takeBack_37 ?_
      refine lv_topi (fun x_4 ex_4 => ?_)
      have tx_4 : x_4.toInt = lG.toInt - 1 := v_sub ex_4 (by show -2147483648 ≤ lG.toInt - 1; omega) (by show lG.toInt - 1 < 2147483648; omega)
      refine va_put (D := (dC, dI)) (ci := 0) (v := .int x_4) (ty := .int) (C := RX0) (T := TX0) (N := 4) hx hb hts in_X0 tyX0 tyX0_ok nmX0 hown hK hP hD hS 0 rfl rfl 3 (by decide) (hts (.fieldLink RX0 22 "TextMender$Changes" "length" "I") (List.mem_of_getElem? (i := 1) rfl)) (fun _ h9 => h9) rfl (by decide +kernel) rfl rfl (Nat.le_of_ble_eq_true rfl) dX0_takeBack_38 (fun H locs hPn hDn hSn => ?_)
      clear hP hD hS
      have hP : va_P (dC, dI) vwCl [(oG, .inr (0, [.ref g1, .ref g2, .int x_3, .int x_4])), (g1, .inl (cI, 6000, .inl fG1)), (g2, .inl (cI, 20, .inl fG2)), (nd, .inr (5, [.ref ad, .int ld])), (ad, .inl (cI, 300, .inl fd))] H := hPn
      have hD : va_D A [(oG, .inr (0, [.ref g1, .ref g2, .int x_3, .int x_4])), (g1, .inl (cI, 6000, .inl fG1)), (g2, .inl (cI, 20, .inl fG2)), (nd, .inr (5, [.ref ad, .int ld])), (ad, .inl (cI, 300, .inl fd))] := hDn
      have hS := hSn
      clear hPn hDn hSn
      refine lv_aload_n hx hb dX0_takeBack_41 rfl (lv_at hl 1 rfl) ?_
      refine lv_iconst (v := 0) hx hb dX0_takeBack_42 (by decide) ?_
      have hPc := hP.sub (ws' := [(nd, .inr (5, [.ref ad, .int ld]))]) [3] rfl
      have hDc := hD.sub (ws' := [(nd, .inr (5, [.ref ad, .int ld]))]) [3] (by decide +kernel) rfl
      have hFc := va_free (wc := [(nd, .inr (5, [.ref ad, .int ld]))]) hD hS hA [3] rfl
      refine va_callv (va_runV (As := [.int 0]) (rest := []) ⟨hx, hb, hml, hown, hts⟩ (m_X5_cut l dC dI cI cS H.size nd ad ld 0 (by omega)) (cwV 1 hts gX0_takeBack_X5_cut rfl rfl rfl (by decide +kernel) ⟨Nat.le_of_ble_eq_true rfl, Nat.le_of_ble_eq_true rfl⟩) ⟨fun a U g mk q => by obtain ⟨q0, q1, qP, qK, qD⟩ := q; exact ⟨q0, q1, qP, va_K.moved (u := U) (U := U.calling g mk a) (Vm.Alike.refl U.vm) qK, qD⟩, va_recv hK hPc (ci := 5) (q0 := 0) rfl rfl, fun U hU hW => ⟨rfl, by rw [hU], by rw [hU]; exact hPc, va_K.moved hW.alike hK, hDc.weaken (fun _ _ _ _ => trivial)⟩⟩ rfl rfl hl.1 rfl (lv_room (Nat.le_of_ble_eq_true rfl)) dX0_takeBack_43 ⟨Nat.le_of_ble_eq_true rfl, Nat.le_of_ble_eq_true rfl⟩) hS (fun q _ h => hFc q h) hFc (fun u t H1 locs ht hvm hw hB hz1 hk1 hSn => ?_)
      obtain ⟨lu_5, hP1, hD1, hf5_0, hf5_1, hf5_2⟩ := hB
      rw [ht] at hP1
      obtain ⟨hPn, hDn⟩ := va_join (wr := [(oG, .inr (0, [.ref g1, .ref g2, .int x_3, .int x_4])), (g1, .inl (cI, 6000, .inl fG1)), (g2, .inl (cI, 20, .inl fG2)), (ad, .inl (cI, 300, .inl fd))]) (w1 := [(nd, .inr (5, [.ref ad, .int lu_5]))]) hP hD [3] [0, 1, 2, 4] rfl rfl (by decide +kernel) (by decide +kernel) hk1 hFc hP1 hD1
      clear hP hD hS hPc hDc hFc hk1 hz1 hvm ht hP1 hD1
      generalize H1 = H at hPn hSn ⊢
      have hP : va_P (dC, dI) vwCl [(oG, .inr (0, [.ref g1, .ref g2, .int x_3, .int x_4])), (g1, .inl (cI, 6000, .inl fG1)), (g2, .inl (cI, 20, .inl fG2)), (ad, .inl (cI, 300, .inl fd)), (nd, .inr (5, [.ref ad, .int lu_5]))] H := hPn
      have hD : va_D A [(oG, .inr (0, [.ref g1, .ref g2, .int x_3, .int x_4])), (g1, .inl (cI, 6000, .inl fG1)), (g2, .inl (cI, 20, .inl fG2)), (ad, .inl (cI, 300, .inl fd)), (nd, .inr (5, [.ref ad, .int lu_5]))] := hDn
      have hS := hSn
      clear hPn hDn hSn
      have ha5 : lu_5.toInt = 0 := F_cut_l hf5_2 (by first | decide | omega) (by first | omega | (show (0 : Int) ≤ _; omega))
      refine lv_iconst (v := 0) hx hb dX0_takeBack_46 (by decide) ?_
      refine lv_istore_n (lv' := [(2, .int 0), (0, .ref oG), (1, .ref nd)]) hx hb dX0_takeBack_47 rfl hl (by decide) rfl (fun ls hl => ?_)
      have LOOP_48 : ∀ (k_48 : Nat) (i : Int32) (l2 : Int32) (f2 : Nat → Int32) (H : Heap) (locs : List Loc) (ls : Array Slot), MSd (300 - i.toInt : Int) k_48 → (0 ≤ i.toInt ∧ i.toInt ≤ 300) → (0 ≤ l2.toInt ∧ l2.toInt ≤ 300) → (tbk i.toInt (300 * x_3.toInt) l2 f2 fG1) → (i.toInt ≤ (fG2 (x_3 : Int32).toNatClampNeg).toInt) → va_P (dC, dI) vwCl [(oG, .inr (0, [.ref g1, .ref g2, .int x_3, .int x_4])), (g1, .inl (cI, 6000, .inl fG1)), (g2, .inl (cI, 20, .inl fG2)), (ad, .inl (cI, 300, .inl f2)), (nd, .inr (5, [.ref ad, .int l2]))] H → va_D A [(oG, .inr (0, [.ref g1, .ref g2, .int x_3, .int x_4])), (g1, .inl (cI, 6000, .inl fG1)), (g2, .inl (cI, 20, .inl fG2)), (ad, .inl (cI, 300, .inl f2)), (nd, .inr (5, [.ref ad, .int l2]))] → va_S A s.heap H locs → lv_has ls 3 [(2, .int i), (0, .ref oG), (1, .ref nd)] → W p l e (headSpec wsX0_takeBack ({ frames := 1, cells := 0, slots := 0, locals := 21 } : Room)).room s m ([.ref oG, .ref nd] : List Value).toArray below meth c H locs 0 0 (MQ below QQ ([.ref oG, .ref nd] : List Value).toArray s 0 0 A) (F0 m 48 ls []) := by
        clear hP hD hS hl
        intro k_48
        induction k_48 with
        | zero =>
          intro i l2 f2 H locs ls hm_48 g_i g_l2 htb hib hP hD hS hl
          exact ms_0 hm_48
        | succ k_48 ih_48 =>
          intro i l2 f2 H locs ls hm_48 g_i g_l2 htb hib hP hD hS hl
          refine lv_iload_n hx hb dX0_takeBack_48 rfl (lv_at hl 0 rfl) ?_
          refine lv_aload_n hx hb dX0_takeBack_49 rfl (lv_at hl 1 rfl) ?_
          refine va_get (D := (dC, dI)) (ci := 0) (v := .ref g2) (C := RX0) (T := TX0) (N := 4) hx hb hts in_X0 hown hK hP 0 rfl rfl 1 (by decide) (hts (.fieldLink RX0 15 "TextMender$Changes" "keptLength" "[I") (List.mem_of_getElem? (i := 3) rfl)) (fun _ h9 => h9) rfl dX0_takeBack_50 ?_
          refine lv_aload_n hx hb dX0_takeBack_53 rfl (lv_at hl 1 rfl) ?_
          refine va_get (D := (dC, dI)) (ci := 0) (v := .int x_3) (C := RX0) (T := TX0) (N := 4) hx hb hts in_X0 hown hK hP 0 rfl rfl 2 (by decide) (hts (.fieldLink RX0 18 "TextMender$Changes" "next" "I") (List.mem_of_getElem? (i := 2) rfl)) (fun _ h9 => h9) rfl dX0_takeBack_54 ?_
          refine va_iald hx hb hK hP 2 0 rfl rfl (v_in (by omega)) dX0_takeBack_57 ?_
          refine lv_topi (fun x_6 ex_6 => ?_)
          have tx_6 : 0 ≤ x_6.toInt ∧ x_6.toInt ≤ 300 := rg_at g_fG2 ex_6
          refine lv_icmp_ge (tgt := 87) hx hb dX0_takeBack_58 (by decide) (fun c_7 => ?_) (fun c_7 => ?_)
          · have tc_7 : x_6.toInt ≤ i.toInt := v_le c_7
            refine lv_iconst (v := 1) hx hb dX0_takeBack_87 (by decide) ?_
            have hP9 := hP.sub (ws' := [(oG, .inr (0, [.ref g1, .ref g2, .int x_3, .int x_4])), (g1, .inl (cI, 6000, .inl fG1)), (g2, .inl (cI, 20, .inl fG2)), (nd, .inr (5, [.ref ad, .int l2])), (ad, .inl (cI, 300, .inl f2))]) [0, 1, 2, 4, 3] rfl
            have hD9 := hD.sub (ws' := [(oG, .inr (0, [.ref g1, .ref g2, .int x_3, .int x_4])), (g1, .inl (cI, 6000, .inl fG1)), (g2, .inl (cI, 20, .inl fG2)), (nd, .inr (5, [.ref ad, .int l2])), (ad, .inl (cI, 300, .inl f2))]) [0, 1, 2, 4, 3] (by decide +kernel) rfl
            rw [hQQ]
            exact W.zret (v := 1) (ty := .boolean) hx hb hr (rfl) (fun t ht hW => ⟨⟨1, 1, rfl, rfl, ⟨x_3, x_4, l2, f2, by rw [ht]; exact hP9, hD9, by omega, by omega, g_l2, by decide, tb_of rfl (by omega) (by omega) (by have e19 : (19 : Int32).toInt = 19 := rfl; omega) (by have e19 : (19 : Int32).toInt = 19 := rfl; omega) ex_6 htb (by have q9 := v_eq ex_6; omega)⟩⟩, hS.F ht⟩) hS.2.2 dX0_takeBack_88
          · have tc_7 : i.toInt < x_6.toInt := v_nle c_7
            refine lv_aload_n hx hb dX0_takeBack_61 rfl (lv_at hl 2 rfl) ?_
            refine lv_aload_n hx hb dX0_takeBack_62 rfl (lv_at hl 1 rfl) ?_
            refine va_get (D := (dC, dI)) (ci := 0) (v := .ref g1) (C := RX0) (T := TX0) (N := 4) hx hb hts in_X0 hown hK hP 0 rfl rfl 0 (by decide) (hts (.fieldLink RX0 11 "TextMender$Changes" "kept" "[I") (List.mem_of_getElem? (i := 4) rfl)) (fun _ h9 => h9) rfl dX0_takeBack_63 ?_
            refine lv_aload_n hx hb dX0_takeBack_66 rfl (lv_at hl 1 rfl) ?_
            refine va_get (D := (dC, dI)) (ci := 0) (v := .int x_3) (C := RX0) (T := TX0) (N := 4) hx hb hts in_X0 hown hK hP 0 rfl rfl 2 (by decide) (hts (.fieldLink RX0 18 "TextMender$Changes" "next" "I") (List.mem_of_getElem? (i := 2) rfl)) (fun _ h9 => h9) rfl dX0_takeBack_67 ?_
            refine lv_sipush (v := 300) hx hb dX0_takeBack_70 (by decide) ?_
            refine lv_imul hx hb dX0_takeBack_73 ?_
            refine lv_topi (fun x_8 ex_8 => ?_)
            have tx_8 : x_8.toInt = x_3.toInt * 300 := v_mul ex_8 (by show -2147483648 ≤ x_3.toInt * 300; omega) (by show x_3.toInt * 300 < 2147483648; omega)
            refine lv_iload_n hx hb dX0_takeBack_74 rfl (lv_at hl 0 rfl) ?_
            refine lv_iadd hx hb dX0_takeBack_75 ?_
            refine lv_topi (fun x_9 ex_9 => ?_)
            have tx_9 : x_9.toInt = x_8.toInt + i.toInt := v_add ex_9 (by show -2147483648 ≤ x_8.toInt + i.toInt; omega) (by show x_8.toInt + i.toInt < 2147483648; omega)
            refine va_iald hx hb hK hP 1 0 rfl rfl (v_in (by omega)) dX0_takeBack_76 ?_
            refine lv_topi (fun x_10 ex_10 => ?_)
            have hPc := hP.sub (ws' := [(nd, .inr (5, [.ref ad, .int l2])), (ad, .inl (cI, 300, .inl f2))]) [4, 3] rfl
            have hDc := hD.sub (ws' := [(nd, .inr (5, [.ref ad, .int l2])), (ad, .inl (cI, 300, .inl f2))]) [4, 3] (by decide +kernel) rfl
            have hFc := va_free (wc := [(nd, .inr (5, [.ref ad, .int l2])), (ad, .inl (cI, 300, .inl f2))]) hD hS hA [4, 3] rfl
            refine va_calli (va_runV (As := [.int x_10]) (rest := []) ⟨hx, hb, hml, hown, hts⟩ (m_X5_add l dC dI cI cS H.size nd ad 300 l2 f2 x_10 (by omega) (by omega)) (cwV 1 hts gX0_takeBack_X5_add rfl rfl rfl (by decide +kernel) ⟨Nat.le_of_ble_eq_true rfl, Nat.le_of_ble_eq_true rfl⟩) ⟨fun a U g mk q => by obtain ⟨q0, q1, qP, qK, qD⟩ := q; exact ⟨q0, q1, qP, va_K.moved (u := U) (U := U.calling g mk a) (Vm.Alike.refl U.vm) qK, qD⟩, va_recv hK hPc (ci := 5) (q0 := 0) rfl rfl, fun U hU hW => ⟨rfl, by rw [hU], by rw [hU]; exact hPc, va_K.moved hW.alike hK, hDc.weaken (fun _ _ _ _ => trivial)⟩⟩ rfl rfl hl.1 rfl (lv_room (Nat.le_of_ble_eq_true rfl)) dX0_takeBack_77 ⟨Nat.le_of_ble_eq_true rfl, Nat.le_of_ble_eq_true rfl⟩) hS (fun q _ h => hFc q h) hFc (fun r_11 u t H1 locs ht hvm hw hB hz1 hk1 hSn => ?_)
            subst hw
            obtain ⟨lu_11, fu_11, hP1, hD1, hf11_0, hf11_1, hf11_2⟩ := hB
            rw [ht] at hP1
            obtain ⟨hPn, hDn⟩ := va_join (wr := [(oG, .inr (0, [.ref g1, .ref g2, .int x_3, .int x_4])), (g1, .inl (cI, 6000, .inl fG1)), (g2, .inl (cI, 20, .inl fG2))]) (w1 := [(nd, .inr (5, [.ref ad, .int lu_11])), (ad, .inl (cI, 300, .inl fu_11))]) hP hD [4, 3] [0, 1, 2] rfl rfl (by decide +kernel) (by decide +kernel) hk1 hFc hP1 hD1
            clear hP hD hS hPc hDc hFc hk1 hz1 hvm ht hP1 hD1
            generalize H1 = H at hPn hSn ⊢
            have hP : va_P (dC, dI) vwCl [(oG, .inr (0, [.ref g1, .ref g2, .int x_3, .int x_4])), (g1, .inl (cI, 6000, .inl fG1)), (g2, .inl (cI, 20, .inl fG2)), (nd, .inr (5, [.ref ad, .int lu_11])), (ad, .inl (cI, 300, .inl fu_11))] H := hPn
            have hD : va_D A [(oG, .inr (0, [.ref g1, .ref g2, .int x_3, .int x_4])), (g1, .inl (cI, 6000, .inl fG1)), (g2, .inl (cI, 20, .inl fG2)), (nd, .inr (5, [.ref ad, .int lu_11])), (ad, .inl (cI, 300, .inl fu_11))] := hDn
            have hS := hSn
            clear hPn hDn hSn
            refine lv_pop hx hb dX0_takeBack_80 rfl ?_
            obtain ⟨x_12, ex_12⟩ : ∃ y : Int32, y = i + 1 := ⟨_, rfl⟩
            have tx_12 : x_12.toInt = i.toInt + 1 := v_add ex_12 (by show -2147483648 ≤ i.toInt + 1; omega) (by show i.toInt + 1 < 2147483648; omega)
            refine lv_iinc (v := x_12) (lv' := [(2, .int x_12), (0, .ref oG), (1, .ref nd)]) hx hb dX0_takeBack_81 hl (k := 0) rfl (by rw [ex_12]; rfl) (by decide) rfl (fun ls hl => ?_)
            refine lv_goto (tgt := 48) hx hb dX0_takeBack_84 (by decide) ?_
            exact ih_48 x_12 lu_11 fu_11 _ _ _ (ms_lt hm_48 (by show ((300 - x_12.toInt : Int)) < 300 - i.toInt; omega) (by show (0 : Int) < 300 - i.toInt; omega)) (by show 0 ≤ x_12.toInt ∧ x_12.toInt ≤ 300; omega) (by show 0 ≤ lu_11.toInt ∧ lu_11.toInt ≤ 300; omega) (tbk_s htb ex_10 hf11_2 (by omega) (by omega) (by omega) (by omega) (by omega)) (by have q9 := ex_6; rw [← q9]; omega) (hP.sub [0, 1, 2, 4, 3] rfl) (hD.sub [0, 1, 2, 4, 3] (by decide +kernel) rfl) hS (lv_sub hl [0, 1, 2] rfl)
      exact LOOP_48 _ 0 lu_5 fd _ _ _ (ms_s _) (by decide) (by show 0 ≤ lu_5.toInt ∧ lu_5.toInt ≤ 300; omega) (⟨by omega, fun j hj => absurd hj (by show ¬ (j : Int) < 0; omega)⟩) (by show (0 : Int) ≤ _; exact (g_fG2 _).1) hP hD hS (lv_sub hl [0, 1, 2] rfl)
    · have tc_2 : gn.toInt = 0 := v_eq c_2
      refine lv_bipush (v := 19) hx hb dX0_takeBack_17 (by decide) ?_
      refine lv_goto (tgt := 28) hx hb dX0_takeBack_19 (by decide) ?_
      refine va_put (D := (dC, dI)) (ci := 0) (v := .int 19) (ty := .int) (C := RX0) (T := TX0) (N := 4) hx hb hts in_X0 tyX0 tyX0_ok nmX0 hown hK hP hD hS 0 rfl rfl 2 (by decide) (hts (.fieldLink RX0 18 "TextMender$Changes" "next" "I") (List.mem_of_getElem? (i := 2) rfl)) (fun _ h9 => h9) rfl (by decide +kernel) rfl rfl (Nat.le_of_ble_eq_true rfl) dX0_takeBack_28 (fun H locs hPn hDn hSn => ?_)
      clear hP hD hS
      have hP : va_P (dC, dI) vwCl [(oG, .inr (0, [.ref g1, .ref g2, .int 19, .int lG])), (g1, .inl (cI, 6000, .inl fG1)), (g2, .inl (cI, 20, .inl fG2)), (nd, .inr (5, [.ref ad, .int ld])), (ad, .inl (cI, 300, .inl fd))] H := hPn
      have hD : va_D A [(oG, .inr (0, [.ref g1, .ref g2, .int 19, .int lG])), (g1, .inl (cI, 6000, .inl fG1)), (g2, .inl (cI, 20, .inl fG2)), (nd, .inr (5, [.ref ad, .int ld])), (ad, .inl (cI, 300, .inl fd))] := hDn
      have hS := hSn
      clear hPn hDn hSn
      refine lv_aload_n hx hb dX0_takeBack_31 rfl (lv_at hl 0 rfl) ?_
      refine lv_dup hx hb dX0_takeBack_32 rfl ?_
      refine va_get (D := (dC, dI)) (ci := 0) (v := .int lG) (C := RX0) (T := TX0) (N := 4) hx hb hts in_X0 hown hK hP 0 rfl rfl 3 (by decide) (hts (.fieldLink RX0 22 "TextMender$Changes" "length" "I") (List.mem_of_getElem? (i := 1) rfl)) (fun _ h9 => h9) rfl dX0_takeBack_33 ?_
      refine lv_iconst (v := 1) hx hb dX0_takeBack_36 (by decide) ?_
      refine lv_isub hx hb dX0_takeBack_37 ?_
      refine lv_topi (fun x_13 ex_13 => ?_)
      have tx_13 : x_13.toInt = lG.toInt - 1 := v_sub ex_13 (by show -2147483648 ≤ lG.toInt - 1; omega) (by show lG.toInt - 1 < 2147483648; omega)
      refine va_put (D := (dC, dI)) (ci := 0) (v := .int x_13) (ty := .int) (C := RX0) (T := TX0) (N := 4) hx hb hts in_X0 tyX0 tyX0_ok nmX0 hown hK hP hD hS 0 rfl rfl 3 (by decide) (hts (.fieldLink RX0 22 "TextMender$Changes" "length" "I") (List.mem_of_getElem? (i := 1) rfl)) (fun _ h9 => h9) rfl (by decide +kernel) rfl rfl (Nat.le_of_ble_eq_true rfl) dX0_takeBack_38 (fun H locs hPn hDn hSn => ?_)
      clear hP hD hS
      have hP : va_P (dC, dI) vwCl [(oG, .inr (0, [.ref g1, .ref g2, .int 19, .int x_13])), (g1, .inl (cI, 6000, .inl fG1)), (g2, .inl (cI, 20, .inl fG2)), (nd, .inr (5, [.ref ad, .int ld])), (ad, .inl (cI, 300, .inl fd))] H := hPn
      have hD : va_D A [(oG, .inr (0, [.ref g1, .ref g2, .int 19, .int x_13])), (g1, .inl (cI, 6000, .inl fG1)), (g2, .inl (cI, 20, .inl fG2)), (nd, .inr (5, [.ref ad, .int ld])), (ad, .inl (cI, 300, .inl fd))] := hDn
      have hS := hSn
      clear hPn hDn hSn
      refine lv_aload_n hx hb dX0_takeBack_41 rfl (lv_at hl 1 rfl) ?_
      refine lv_iconst (v := 0) hx hb dX0_takeBack_42 (by decide) ?_
      have hPc := hP.sub (ws' := [(nd, .inr (5, [.ref ad, .int ld]))]) [3] rfl
      have hDc := hD.sub (ws' := [(nd, .inr (5, [.ref ad, .int ld]))]) [3] (by decide +kernel) rfl
      have hFc := va_free (wc := [(nd, .inr (5, [.ref ad, .int ld]))]) hD hS hA [3] rfl
      refine va_callv (va_runV (As := [.int 0]) (rest := []) ⟨hx, hb, hml, hown, hts⟩ (m_X5_cut l dC dI cI cS H.size nd ad ld 0 (by omega)) (cwV 1 hts gX0_takeBack_X5_cut rfl rfl rfl (by decide +kernel) ⟨Nat.le_of_ble_eq_true rfl, Nat.le_of_ble_eq_true rfl⟩) ⟨fun a U g mk q => by obtain ⟨q0, q1, qP, qK, qD⟩ := q; exact ⟨q0, q1, qP, va_K.moved (u := U) (U := U.calling g mk a) (Vm.Alike.refl U.vm) qK, qD⟩, va_recv hK hPc (ci := 5) (q0 := 0) rfl rfl, fun U hU hW => ⟨rfl, by rw [hU], by rw [hU]; exact hPc, va_K.moved hW.alike hK, hDc.weaken (fun _ _ _ _ => trivial)⟩⟩ rfl rfl hl.1 rfl (lv_room (Nat.le_of_ble_eq_true rfl)) dX0_takeBack_43 ⟨Nat.le_of_ble_eq_true rfl, Nat.le_of_ble_eq_true rfl⟩) hS (fun q _ h => hFc q h) hFc (fun u t H1 locs ht hvm hw hB hz1 hk1 hSn => ?_)
      obtain ⟨lu_14, hP1, hD1, hf14_0, hf14_1, hf14_2⟩ := hB
      rw [ht] at hP1
      obtain ⟨hPn, hDn⟩ := va_join (wr := [(oG, .inr (0, [.ref g1, .ref g2, .int 19, .int x_13])), (g1, .inl (cI, 6000, .inl fG1)), (g2, .inl (cI, 20, .inl fG2)), (ad, .inl (cI, 300, .inl fd))]) (w1 := [(nd, .inr (5, [.ref ad, .int lu_14]))]) hP hD [3] [0, 1, 2, 4] rfl rfl (by decide +kernel) (by decide +kernel) hk1 hFc hP1 hD1
      clear hP hD hS hPc hDc hFc hk1 hz1 hvm ht hP1 hD1
      generalize H1 = H at hPn hSn ⊢
      have hP : va_P (dC, dI) vwCl [(oG, .inr (0, [.ref g1, .ref g2, .int 19, .int x_13])), (g1, .inl (cI, 6000, .inl fG1)), (g2, .inl (cI, 20, .inl fG2)), (ad, .inl (cI, 300, .inl fd)), (nd, .inr (5, [.ref ad, .int lu_14]))] H := hPn
      have hD : va_D A [(oG, .inr (0, [.ref g1, .ref g2, .int 19, .int x_13])), (g1, .inl (cI, 6000, .inl fG1)), (g2, .inl (cI, 20, .inl fG2)), (ad, .inl (cI, 300, .inl fd)), (nd, .inr (5, [.ref ad, .int lu_14]))] := hDn
      have hS := hSn
      clear hPn hDn hSn
      have ha14 : lu_14.toInt = 0 := F_cut_l hf14_2 (by first | decide | omega) (by first | omega | (show (0 : Int) ≤ _; omega))
      refine lv_iconst (v := 0) hx hb dX0_takeBack_46 (by decide) ?_
      refine lv_istore_n (lv' := [(2, .int 0), (0, .ref oG), (1, .ref nd)]) hx hb dX0_takeBack_47 rfl hl (by decide) rfl (fun ls hl => ?_)
      have LOOP_48 : ∀ (k_48 : Nat) (i : Int32) (l2 : Int32) (f2 : Nat → Int32) (H : Heap) (locs : List Loc) (ls : Array Slot), MSd (300 - i.toInt : Int) k_48 → (0 ≤ i.toInt ∧ i.toInt ≤ 300) → (0 ≤ l2.toInt ∧ l2.toInt ≤ 300) → (tbk i.toInt (300 * (19 : Int32).toInt) l2 f2 fG1) → (i.toInt ≤ (fG2 (19 : Int32).toNatClampNeg).toInt) → va_P (dC, dI) vwCl [(oG, .inr (0, [.ref g1, .ref g2, .int 19, .int x_13])), (g1, .inl (cI, 6000, .inl fG1)), (g2, .inl (cI, 20, .inl fG2)), (ad, .inl (cI, 300, .inl f2)), (nd, .inr (5, [.ref ad, .int l2]))] H → va_D A [(oG, .inr (0, [.ref g1, .ref g2, .int 19, .int x_13])), (g1, .inl (cI, 6000, .inl fG1)), (g2, .inl (cI, 20, .inl fG2)), (ad, .inl (cI, 300, .inl f2)), (nd, .inr (5, [.ref ad, .int l2]))] → va_S A s.heap H locs → lv_has ls 3 [(2, .int i), (0, .ref oG), (1, .ref nd)] → W p l e (headSpec wsX0_takeBack ({ frames := 1, cells := 0, slots := 0, locals := 21 } : Room)).room s m ([.ref oG, .ref nd] : List Value).toArray below meth c H locs 0 0 (MQ below QQ ([.ref oG, .ref nd] : List Value).toArray s 0 0 A) (F0 m 48 ls []) := by
        clear hP hD hS hl
        intro k_48
        induction k_48 with
        | zero =>
          intro i l2 f2 H locs ls hm_48 g_i g_l2 htb hib hP hD hS hl
          exact ms_0 hm_48
        | succ k_48 ih_48 =>
          intro i l2 f2 H locs ls hm_48 g_i g_l2 htb hib hP hD hS hl
          refine lv_iload_n hx hb dX0_takeBack_48 rfl (lv_at hl 0 rfl) ?_
          refine lv_aload_n hx hb dX0_takeBack_49 rfl (lv_at hl 1 rfl) ?_
          refine va_get (D := (dC, dI)) (ci := 0) (v := .ref g2) (C := RX0) (T := TX0) (N := 4) hx hb hts in_X0 hown hK hP 0 rfl rfl 1 (by decide) (hts (.fieldLink RX0 15 "TextMender$Changes" "keptLength" "[I") (List.mem_of_getElem? (i := 3) rfl)) (fun _ h9 => h9) rfl dX0_takeBack_50 ?_
          refine lv_aload_n hx hb dX0_takeBack_53 rfl (lv_at hl 1 rfl) ?_
          refine va_get (D := (dC, dI)) (ci := 0) (v := .int 19) (C := RX0) (T := TX0) (N := 4) hx hb hts in_X0 hown hK hP 0 rfl rfl 2 (by decide) (hts (.fieldLink RX0 18 "TextMender$Changes" "next" "I") (List.mem_of_getElem? (i := 2) rfl)) (fun _ h9 => h9) rfl dX0_takeBack_54 ?_
          refine va_iald hx hb hK hP 2 0 rfl rfl (by unfold vp_in; decide) dX0_takeBack_57 ?_
          refine lv_topi (fun x_15 ex_15 => ?_)
          have tx_15 : 0 ≤ x_15.toInt ∧ x_15.toInt ≤ 300 := rg_at g_fG2 ex_15
          refine lv_icmp_ge (tgt := 87) hx hb dX0_takeBack_58 (by decide) (fun c_16 => ?_) (fun c_16 => ?_)
          · have tc_16 : x_15.toInt ≤ i.toInt := v_le c_16
            refine lv_iconst (v := 1) hx hb dX0_takeBack_87 (by decide) ?_
            have hP9 := hP.sub (ws' := [(oG, .inr (0, [.ref g1, .ref g2, .int 19, .int x_13])), (g1, .inl (cI, 6000, .inl fG1)), (g2, .inl (cI, 20, .inl fG2)), (nd, .inr (5, [.ref ad, .int l2])), (ad, .inl (cI, 300, .inl f2))]) [0, 1, 2, 4, 3] rfl
            have hD9 := hD.sub (ws' := [(oG, .inr (0, [.ref g1, .ref g2, .int 19, .int x_13])), (g1, .inl (cI, 6000, .inl fG1)), (g2, .inl (cI, 20, .inl fG2)), (nd, .inr (5, [.ref ad, .int l2])), (ad, .inl (cI, 300, .inl f2))]) [0, 1, 2, 4, 3] (by decide +kernel) rfl
            rw [hQQ]
            exact W.zret (v := 1) (ty := .boolean) hx hb hr (rfl) (fun t ht hW => ⟨⟨1, 1, rfl, rfl, ⟨19, x_13, l2, f2, by rw [ht]; exact hP9, hD9, by decide, by omega, g_l2, by decide, tb_of rfl (by omega) (by omega) (by have e19 : (19 : Int32).toInt = 19 := rfl; omega) (by have e19 : (19 : Int32).toInt = 19 := rfl; omega) ex_15 htb (by have q9 := v_eq ex_15; omega)⟩⟩, hS.F ht⟩) hS.2.2 dX0_takeBack_88
          · have tc_16 : i.toInt < x_15.toInt := v_nle c_16
            refine lv_aload_n hx hb dX0_takeBack_61 rfl (lv_at hl 2 rfl) ?_
            refine lv_aload_n hx hb dX0_takeBack_62 rfl (lv_at hl 1 rfl) ?_
            refine va_get (D := (dC, dI)) (ci := 0) (v := .ref g1) (C := RX0) (T := TX0) (N := 4) hx hb hts in_X0 hown hK hP 0 rfl rfl 0 (by decide) (hts (.fieldLink RX0 11 "TextMender$Changes" "kept" "[I") (List.mem_of_getElem? (i := 4) rfl)) (fun _ h9 => h9) rfl dX0_takeBack_63 ?_
            refine lv_aload_n hx hb dX0_takeBack_66 rfl (lv_at hl 1 rfl) ?_
            refine va_get (D := (dC, dI)) (ci := 0) (v := .int 19) (C := RX0) (T := TX0) (N := 4) hx hb hts in_X0 hown hK hP 0 rfl rfl 2 (by decide) (hts (.fieldLink RX0 18 "TextMender$Changes" "next" "I") (List.mem_of_getElem? (i := 2) rfl)) (fun _ h9 => h9) rfl dX0_takeBack_67 ?_
            refine lv_sipush (v := 300) hx hb dX0_takeBack_70 (by decide) ?_
            refine lv_imul hx hb dX0_takeBack_73 ?_
            refine k_i (y := 5700) (by decide) ?_
            refine lv_iload_n hx hb dX0_takeBack_74 rfl (lv_at hl 0 rfl) ?_
            refine lv_iadd hx hb dX0_takeBack_75 ?_
            refine lv_topi (fun x_17 ex_17 => ?_)
            have tx_17 : x_17.toInt = 5700 + i.toInt := v_add ex_17 (by show -2147483648 ≤ 5700 + i.toInt; omega) (by show 5700 + i.toInt < 2147483648; omega)
            refine va_iald hx hb hK hP 1 0 rfl rfl (v_in (by omega)) dX0_takeBack_76 ?_
            refine lv_topi (fun x_18 ex_18 => ?_)
            have hPc := hP.sub (ws' := [(nd, .inr (5, [.ref ad, .int l2])), (ad, .inl (cI, 300, .inl f2))]) [4, 3] rfl
            have hDc := hD.sub (ws' := [(nd, .inr (5, [.ref ad, .int l2])), (ad, .inl (cI, 300, .inl f2))]) [4, 3] (by decide +kernel) rfl
            have hFc := va_free (wc := [(nd, .inr (5, [.ref ad, .int l2])), (ad, .inl (cI, 300, .inl f2))]) hD hS hA [4, 3] rfl
            refine va_calli (va_runV (As := [.int x_18]) (rest := []) ⟨hx, hb, hml, hown, hts⟩ (m_X5_add l dC dI cI cS H.size nd ad 300 l2 f2 x_18 (by omega) (by omega)) (cwV 1 hts gX0_takeBack_X5_add rfl rfl rfl (by decide +kernel) ⟨Nat.le_of_ble_eq_true rfl, Nat.le_of_ble_eq_true rfl⟩) ⟨fun a U g mk q => by obtain ⟨q0, q1, qP, qK, qD⟩ := q; exact ⟨q0, q1, qP, va_K.moved (u := U) (U := U.calling g mk a) (Vm.Alike.refl U.vm) qK, qD⟩, va_recv hK hPc (ci := 5) (q0 := 0) rfl rfl, fun U hU hW => ⟨rfl, by rw [hU], by rw [hU]; exact hPc, va_K.moved hW.alike hK, hDc.weaken (fun _ _ _ _ => trivial)⟩⟩ rfl rfl hl.1 rfl (lv_room (Nat.le_of_ble_eq_true rfl)) dX0_takeBack_77 ⟨Nat.le_of_ble_eq_true rfl, Nat.le_of_ble_eq_true rfl⟩) hS (fun q _ h => hFc q h) hFc (fun r_19 u t H1 locs ht hvm hw hB hz1 hk1 hSn => ?_)
            subst hw
            obtain ⟨lu_19, fu_19, hP1, hD1, hf19_0, hf19_1, hf19_2⟩ := hB
            rw [ht] at hP1
            obtain ⟨hPn, hDn⟩ := va_join (wr := [(oG, .inr (0, [.ref g1, .ref g2, .int 19, .int x_13])), (g1, .inl (cI, 6000, .inl fG1)), (g2, .inl (cI, 20, .inl fG2))]) (w1 := [(nd, .inr (5, [.ref ad, .int lu_19])), (ad, .inl (cI, 300, .inl fu_19))]) hP hD [4, 3] [0, 1, 2] rfl rfl (by decide +kernel) (by decide +kernel) hk1 hFc hP1 hD1
            clear hP hD hS hPc hDc hFc hk1 hz1 hvm ht hP1 hD1
            generalize H1 = H at hPn hSn ⊢
            have hP : va_P (dC, dI) vwCl [(oG, .inr (0, [.ref g1, .ref g2, .int 19, .int x_13])), (g1, .inl (cI, 6000, .inl fG1)), (g2, .inl (cI, 20, .inl fG2)), (nd, .inr (5, [.ref ad, .int lu_19])), (ad, .inl (cI, 300, .inl fu_19))] H := hPn
            have hD : va_D A [(oG, .inr (0, [.ref g1, .ref g2, .int 19, .int x_13])), (g1, .inl (cI, 6000, .inl fG1)), (g2, .inl (cI, 20, .inl fG2)), (nd, .inr (5, [.ref ad, .int lu_19])), (ad, .inl (cI, 300, .inl fu_19))] := hDn
            have hS := hSn
            clear hPn hDn hSn
            refine lv_pop hx hb dX0_takeBack_80 rfl ?_
            obtain ⟨x_20, ex_20⟩ : ∃ y : Int32, y = i + 1 := ⟨_, rfl⟩
            have tx_20 : x_20.toInt = i.toInt + 1 := v_add ex_20 (by show -2147483648 ≤ i.toInt + 1; omega) (by show i.toInt + 1 < 2147483648; omega)
            refine lv_iinc (v := x_20) (lv' := [(2, .int x_20), (0, .ref oG), (1, .ref nd)]) hx hb dX0_takeBack_81 hl (k := 0) rfl (by rw [ex_20]; rfl) (by decide) rfl (fun ls hl => ?_)
            refine lv_goto (tgt := 48) hx hb dX0_takeBack_84 (by decide) ?_
            exact ih_48 x_20 lu_19 fu_19 _ _ _ (ms_lt hm_48 (by show ((300 - x_20.toInt : Int)) < 300 - i.toInt; omega) (by show (0 : Int) < 300 - i.toInt; omega)) (by show 0 ≤ x_20.toInt ∧ x_20.toInt ≤ 300; omega) (by show 0 ≤ lu_19.toInt ∧ lu_19.toInt ≤ 300; omega) (tbk_s htb ex_18 hf19_2 (by omega) (by omega) (by omega) (by omega) (by omega)) (by have q9 := ex_15; rw [← q9]; omega) (hP.sub [0, 1, 2, 4, 3] rfl) (hD.sub [0, 1, 2, 4, 3] (by decide +kernel) rfl) hS (lv_sub hl [0, 1, 2] rfl)
      exact LOOP_48 _ 0 lu_14 fd _ _ _ (ms_s _) (by decide) (by show 0 ≤ lu_14.toInt ∧ lu_14.toInt ≤ 300; omega) (⟨by omega, fun j hj => absurd hj (by show ¬ (j : Int) < 0; omega)⟩) (by show (0 : Int) ≤ _; exact (g_fG2 _).1) hP hD hS (lv_sub hl [0, 1, 2] rfl)
  · have tc_1 : lG.toInt = 0 := v_eq c_1
    refine lv_iconst (v := 0) hx hb dX0_takeBack_7 (by decide) ?_
    have hP9 := hP.sub (ws' := [(oG, .inr (0, [.ref g1, .ref g2, .int gn, .int lG])), (g1, .inl (cI, 6000, .inl fG1)), (g2, .inl (cI, 20, .inl fG2)), (nd, .inr (5, [.ref ad, .int ld])), (ad, .inl (cI, 300, .inl fd))]) [0, 1, 2, 3, 4] rfl
    have hD9 := hD.sub (ws' := [(oG, .inr (0, [.ref g1, .ref g2, .int gn, .int lG])), (g1, .inl (cI, 6000, .inl fG1)), (g2, .inl (cI, 20, .inl fG2)), (nd, .inr (5, [.ref ad, .int ld])), (ad, .inl (cI, 300, .inl fd))]) [0, 1, 2, 3, 4] (by decide +kernel) rfl
    rw [hQQ]
    exact W.zret (v := 0) (ty := .boolean) hx hb hr (rfl) (fun t ht hW => ⟨⟨0, 0, rfl, rfl, ⟨gn, lG, ld, fd, by rw [ht]; exact hP9, hD9, g_gn, g_lG, g_ld, by decide, Or.inr ⟨rfl, by omega, rfl, rfl, rfl, rfl⟩⟩⟩, hS.F ht⟩) hS.2.2 dX0_takeBack_8

def F_bk (r gn gn' lG lG' l l' : Int32) (f1 f2 f f' : Nat → Int32) : Prop := ∃ q : Int32, F_tbC q gn gn' lG lG' l l' f1 f2 f f' ∧ ((¬ q.toInt = 0 ∧ r.toInt = lG'.toInt) ∨ (q.toInt = 0 ∧ r.toInt = -1))

end

/-! 59j.a.rows -/
section
theorem dX12_become_0 : decode cX12_become 0 = .ok (.aload_n 0, 1) := by decide +kernel
theorem dX12_become_1 : decode cX12_become 1 = .ok (.getfield 142, 3) := by decide +kernel
theorem dX12_become_4 : decode cX12_become 4 = .ok (.bipush 20, 2) := by decide +kernel
theorem dX12_become_6 : decode cX12_become 6 = .ok (.if_icmp .ne 19, 3) := by decide +kernel
theorem dX12_become_25 : decode cX12_become 25 = .ok (.aload_n 0, 1) := by decide +kernel
theorem dX12_become_26 : decode cX12_become 26 = .ok (.dup, 1) := by decide +kernel
theorem dX12_become_27 : decode cX12_become 27 = .ok (.getfield 142, 3) := by decide +kernel
theorem dX12_become_30 : decode cX12_become 30 = .ok (.iconst 1, 1) := by decide +kernel
theorem dX12_become_31 : decode cX12_become 31 = .ok (.iadd, 1) := by decide +kernel
theorem dX12_become_32 : decode cX12_become 32 = .ok (.putfield 142, 3) := by decide +kernel
theorem dX12_become_35 : decode cX12_become 35 = .ok (.iconst 1, 1) := by decide +kernel
theorem dX12_become_36 : decode cX12_become 36 = .ok (.aload_n 0, 1) := by decide +kernel
theorem dX12_become_37 : decode cX12_become 37 = .ok (.getfield 145, 3) := by decide +kernel
theorem dX12_become_40 : decode cX12_become 40 = .ok (.aload_n 0, 1) := by decide +kernel
theorem dX12_become_41 : decode cX12_become 41 = .ok (.getfield 142, 3) := by decide +kernel
theorem dX12_become_44 : decode cX12_become 44 = .ok (.iadd, 1) := by decide +kernel
theorem dX12_become_45 : decode cX12_become 45 = .ok (.iconst 1, 1) := by decide +kernel
theorem dX12_become_46 : decode cX12_become 46 = .ok (.isub, 1) := by decide +kernel
theorem dX12_become_47 : decode cX12_become 47 = .ok (.bipush 20, 2) := by decide +kernel
theorem dX12_become_49 : decode cX12_become 49 = .ok (.irem, 1) := by decide +kernel
theorem dX12_become_50 : decode cX12_become 50 = .ok (.iadd, 1) := by decide +kernel
theorem dX12_become_51 : decode cX12_become 51 = .ok (.istore_n 3, 1) := by decide +kernel
theorem dX12_become_52 : decode cX12_become 52 = .ok (.aload_n 0, 1) := by decide +kernel
theorem dX12_become_53 : decode cX12_become 53 = .ok (.getfield 13, 3) := by decide +kernel
theorem dX12_become_56 : decode cX12_become 56 = .ok (.iload_n 3, 1) := by decide +kernel
theorem dX12_become_57 : decode cX12_become 57 = .ok (.aload_n 0, 1) := by decide +kernel
theorem dX12_become_58 : decode cX12_become 58 = .ok (.getfield 13, 3) := by decide +kernel
theorem dX12_become_61 : decode cX12_become 61 = .ok (.iconst 0, 1) := by decide +kernel
theorem dX12_become_62 : decode cX12_become 62 = .ok (.iaload, 1) := by decide +kernel
theorem dX12_become_63 : decode cX12_become 63 = .ok (.iastore, 1) := by decide +kernel
theorem dX12_become_64 : decode cX12_become 64 = .ok (.iconst 0, 1) := by decide +kernel
theorem dX12_become_65 : decode cX12_become 65 = .ok (.istore 4, 2) := by decide +kernel
theorem dX12_become_67 : decode cX12_become 67 = .ok (.iload 4, 2) := by decide +kernel
theorem dX12_become_69 : decode cX12_become 69 = .ok (.aload_n 0, 1) := by decide +kernel
theorem dX12_become_70 : decode cX12_become 70 = .ok (.getfield 13, 3) := by decide +kernel
theorem dX12_become_73 : decode cX12_become 73 = .ok (.iconst 0, 1) := by decide +kernel
theorem dX12_become_74 : decode cX12_become 74 = .ok (.iaload, 1) := by decide +kernel
theorem dX12_become_75 : decode cX12_become 75 = .ok (.if_icmp .ge 29, 3) := by decide +kernel
theorem dX12_become_104 : decode cX12_become 104 = .ok (.aload_n 0, 1) := by decide +kernel
theorem dX12_become_105 : decode cX12_become 105 = .ok (.getfield 13, 3) := by decide +kernel
theorem dX12_become_108 : decode cX12_become 108 = .ok (.iconst 0, 1) := by decide +kernel
theorem dX12_become_109 : decode cX12_become 109 = .ok (.iload_n 2, 1) := by decide +kernel
theorem dX12_become_110 : decode cX12_become 110 = .ok (.iastore, 1) := by decide +kernel
theorem dX12_become_111 : decode cX12_become 111 = .ok (.iconst 0, 1) := by decide +kernel
theorem dX12_become_112 : decode cX12_become 112 = .ok (.istore 4, 2) := by decide +kernel
theorem dX12_become_114 : decode cX12_become 114 = .ok (.iload 4, 2) := by decide +kernel
theorem dX12_become_116 : decode cX12_become 116 = .ok (.iload_n 2, 1) := by decide +kernel
theorem dX12_become_117 : decode cX12_become 117 = .ok (.if_icmp .ge 20, 3) := by decide +kernel
theorem dX12_become_137 : decode cX12_become 137 = .ok (.aload_n 0, 1) := by decide +kernel
theorem dX12_become_138 : decode cX12_become 138 = .ok (.dup, 1) := by decide +kernel
theorem dX12_become_139 : decode cX12_become 139 = .ok (.getfield 148, 3) := by decide +kernel
theorem dX12_become_142 : decode cX12_become 142 = .ok (.iconst 1, 1) := by decide +kernel
theorem dX12_become_143 : decode cX12_become 143 = .ok (.iadd, 1) := by decide +kernel
theorem dX12_become_144 : decode cX12_become 144 = .ok (.putfield 148, 3) := by decide +kernel
theorem dX12_become_147 : decode cX12_become 147 = .ok (.return_, 1) := by decide +kernel
theorem dX12_become_120 : decode cX12_become 120 = .ok (.aload_n 0, 1) := by decide +kernel
theorem dX12_become_121 : decode cX12_become 121 = .ok (.getfield 16, 3) := by decide +kernel
theorem dX12_become_124 : decode cX12_become 124 = .ok (.iload 4, 2) := by decide +kernel
theorem dX12_become_126 : decode cX12_become 126 = .ok (.aload_n 1, 1) := by decide +kernel
theorem dX12_become_127 : decode cX12_become 127 = .ok (.iload 4, 2) := by decide +kernel
theorem dX12_become_129 : decode cX12_become 129 = .ok (.iaload, 1) := by decide +kernel
theorem dX12_become_130 : decode cX12_become 130 = .ok (.iastore, 1) := by decide +kernel
theorem dX12_become_131 : decode cX12_become 131 = .ok (.iinc 4 1, 3) := by decide +kernel
theorem dX12_become_134 : decode cX12_become 134 = .ok (.goto (-20), 3) := by decide +kernel
theorem dX12_become_78 : decode cX12_become 78 = .ok (.aload_n 0, 1) := by decide +kernel
theorem dX12_become_79 : decode cX12_become 79 = .ok (.getfield 16, 3) := by decide +kernel
theorem dX12_become_82 : decode cX12_become 82 = .ok (.sipush 300, 3) := by decide +kernel
theorem dX12_become_85 : decode cX12_become 85 = .ok (.iload_n 3, 1) := by decide +kernel
theorem dX12_become_86 : decode cX12_become 86 = .ok (.imul, 1) := by decide +kernel
theorem dX12_become_87 : decode cX12_become 87 = .ok (.iload 4, 2) := by decide +kernel
theorem dX12_become_89 : decode cX12_become 89 = .ok (.iadd, 1) := by decide +kernel
theorem dX12_become_90 : decode cX12_become 90 = .ok (.aload_n 0, 1) := by decide +kernel
theorem dX12_become_91 : decode cX12_become 91 = .ok (.getfield 16, 3) := by decide +kernel
theorem dX12_become_94 : decode cX12_become 94 = .ok (.iload 4, 2) := by decide +kernel
theorem dX12_become_96 : decode cX12_become 96 = .ok (.iaload, 1) := by decide +kernel
theorem dX12_become_97 : decode cX12_become 97 = .ok (.iastore, 1) := by decide +kernel
theorem dX12_become_98 : decode cX12_become 98 = .ok (.iinc 4 1, 3) := by decide +kernel
theorem dX12_become_101 : decode cX12_become 101 = .ok (.goto (-34), 3) := by decide +kernel
theorem dX12_become_9 : decode cX12_become 9 = .ok (.aload_n 0, 1) := by decide +kernel
theorem dX12_become_10 : decode cX12_become 10 = .ok (.aload_n 0, 1) := by decide +kernel
theorem dX12_become_11 : decode cX12_become 11 = .ok (.getfield 145, 3) := by decide +kernel
theorem dX12_become_14 : decode cX12_become 14 = .ok (.iconst 1, 1) := by decide +kernel
theorem dX12_become_15 : decode cX12_become 15 = .ok (.iadd, 1) := by decide +kernel
theorem dX12_become_16 : decode cX12_become 16 = .ok (.bipush 20, 2) := by decide +kernel
theorem dX12_become_18 : decode cX12_become 18 = .ok (.irem, 1) := by decide +kernel
theorem dX12_become_19 : decode cX12_become 19 = .ok (.putfield 145, 3) := by decide +kernel
theorem dX12_become_22 : decode cX12_become 22 = .ok (.goto 13, 3) := by decide +kernel
theorem dX12_back_0 : decode cX12_back 0 = .ok (.aload_n 0, 1) := by decide +kernel
theorem dX12_back_1 : decode cX12_back 1 = .ok (.iconst 0, 1) := by decide +kernel
theorem dX12_back_2 : decode cX12_back 2 = .ok (.putfield 85, 3) := by decide +kernel
theorem dX12_back_5 : decode cX12_back 5 = .ok (.aload_n 0, 1) := by decide +kernel
theorem dX12_back_6 : decode cX12_back 6 = .ok (.getfield 142, 3) := by decide +kernel
theorem dX12_back_9 : decode cX12_back 9 = .ok (.ifCond .ne 5, 3) := by decide +kernel
theorem dX12_back_14 : decode cX12_back 14 = .ok (.aload_n 0, 1) := by decide +kernel
theorem dX12_back_15 : decode cX12_back 15 = .ok (.dup, 1) := by decide +kernel
theorem dX12_back_16 : decode cX12_back 16 = .ok (.getfield 142, 3) := by decide +kernel
theorem dX12_back_19 : decode cX12_back 19 = .ok (.iconst 1, 1) := by decide +kernel
theorem dX12_back_20 : decode cX12_back 20 = .ok (.isub, 1) := by decide +kernel
theorem dX12_back_21 : decode cX12_back 21 = .ok (.putfield 142, 3) := by decide +kernel
theorem dX12_back_24 : decode cX12_back 24 = .ok (.iconst 1, 1) := by decide +kernel
theorem dX12_back_25 : decode cX12_back 25 = .ok (.aload_n 0, 1) := by decide +kernel
theorem dX12_back_26 : decode cX12_back 26 = .ok (.getfield 145, 3) := by decide +kernel
theorem dX12_back_29 : decode cX12_back 29 = .ok (.aload_n 0, 1) := by decide +kernel
theorem dX12_back_30 : decode cX12_back 30 = .ok (.getfield 142, 3) := by decide +kernel
theorem dX12_back_33 : decode cX12_back 33 = .ok (.iadd, 1) := by decide +kernel
theorem dX12_back_34 : decode cX12_back 34 = .ok (.bipush 20, 2) := by decide +kernel
theorem dX12_back_36 : decode cX12_back 36 = .ok (.irem, 1) := by decide +kernel
theorem dX12_back_37 : decode cX12_back 37 = .ok (.iadd, 1) := by decide +kernel
theorem dX12_back_38 : decode cX12_back 38 = .ok (.istore_n 1, 1) := by decide +kernel
theorem dX12_back_39 : decode cX12_back 39 = .ok (.aload_n 0, 1) := by decide +kernel
theorem dX12_back_40 : decode cX12_back 40 = .ok (.getfield 13, 3) := by decide +kernel
theorem dX12_back_43 : decode cX12_back 43 = .ok (.iconst 0, 1) := by decide +kernel
theorem dX12_back_44 : decode cX12_back 44 = .ok (.aload_n 0, 1) := by decide +kernel
theorem dX12_back_45 : decode cX12_back 45 = .ok (.getfield 13, 3) := by decide +kernel
theorem dX12_back_48 : decode cX12_back 48 = .ok (.iload_n 1, 1) := by decide +kernel
theorem dX12_back_49 : decode cX12_back 49 = .ok (.iaload, 1) := by decide +kernel
theorem dX12_back_50 : decode cX12_back 50 = .ok (.iastore, 1) := by decide +kernel
theorem dX12_back_51 : decode cX12_back 51 = .ok (.iconst 0, 1) := by decide +kernel
theorem dX12_back_52 : decode cX12_back 52 = .ok (.istore_n 2, 1) := by decide +kernel
theorem dX12_back_53 : decode cX12_back 53 = .ok (.iload_n 2, 1) := by decide +kernel
theorem dX12_back_54 : decode cX12_back 54 = .ok (.aload_n 0, 1) := by decide +kernel
theorem dX12_back_55 : decode cX12_back 55 = .ok (.getfield 13, 3) := by decide +kernel
theorem dX12_back_58 : decode cX12_back 58 = .ok (.iconst 0, 1) := by decide +kernel
theorem dX12_back_59 : decode cX12_back 59 = .ok (.iaload, 1) := by decide +kernel
theorem dX12_back_60 : decode cX12_back 60 = .ok (.if_icmp .ge 27, 3) := by decide +kernel
theorem dX12_back_87 : decode cX12_back 87 = .ok (.aload_n 0, 1) := by decide +kernel
theorem dX12_back_88 : decode cX12_back 88 = .ok (.dup, 1) := by decide +kernel
theorem dX12_back_89 : decode cX12_back 89 = .ok (.getfield 148, 3) := by decide +kernel
theorem dX12_back_92 : decode cX12_back 92 = .ok (.iconst 1, 1) := by decide +kernel
theorem dX12_back_93 : decode cX12_back 93 = .ok (.iadd, 1) := by decide +kernel
theorem dX12_back_94 : decode cX12_back 94 = .ok (.putfield 148, 3) := by decide +kernel
theorem dX12_back_97 : decode cX12_back 97 = .ok (.aload_n 0, 1) := by decide +kernel
theorem dX12_back_98 : decode cX12_back 98 = .ok (.getfield 142, 3) := by decide +kernel
theorem dX12_back_101 : decode cX12_back 101 = .ok (.ireturn, 1) := by decide +kernel
theorem dX12_back_63 : decode cX12_back 63 = .ok (.aload_n 0, 1) := by decide +kernel
theorem dX12_back_64 : decode cX12_back 64 = .ok (.getfield 16, 3) := by decide +kernel
theorem dX12_back_67 : decode cX12_back 67 = .ok (.iload_n 2, 1) := by decide +kernel
theorem dX12_back_68 : decode cX12_back 68 = .ok (.aload_n 0, 1) := by decide +kernel
theorem dX12_back_69 : decode cX12_back 69 = .ok (.getfield 16, 3) := by decide +kernel
theorem dX12_back_72 : decode cX12_back 72 = .ok (.sipush 300, 3) := by decide +kernel
theorem dX12_back_75 : decode cX12_back 75 = .ok (.iload_n 1, 1) := by decide +kernel
theorem dX12_back_76 : decode cX12_back 76 = .ok (.imul, 1) := by decide +kernel
theorem dX12_back_77 : decode cX12_back 77 = .ok (.iload_n 2, 1) := by decide +kernel
theorem dX12_back_78 : decode cX12_back 78 = .ok (.iadd, 1) := by decide +kernel
theorem dX12_back_79 : decode cX12_back 79 = .ok (.iaload, 1) := by decide +kernel
theorem dX12_back_80 : decode cX12_back 80 = .ok (.iastore, 1) := by decide +kernel
theorem dX12_back_81 : decode cX12_back 81 = .ok (.iinc 2 1, 3) := by decide +kernel
theorem dX12_back_84 : decode cX12_back 84 = .ok (.goto (-31), 3) := by decide +kernel
theorem dX12_back_12 : decode cX12_back 12 = .ok (.iconst (-1), 1) := by decide +kernel
theorem dX12_back_13 : decode cX12_back 13 = .ok (.ireturn, 1) := by decide +kernel
theorem dX11_back_0 : decode cX11_back 0 = .ok (.aload_n 0, 1) := by decide +kernel
theorem dX11_back_1 : decode cX11_back 1 = .ok (.getfield 59, 3) := by decide +kernel
theorem dX11_back_4 : decode cX11_back 4 = .ok (.aload_n 0, 1) := by decide +kernel
theorem dX11_back_5 : decode cX11_back 5 = .ok (.getfield 34, 3) := by decide +kernel
set_option maxRecDepth 20000 in
theorem ggX11_back_X0_takeBack : GoodIn wsX11_back wsX0_takeBack := goodIn_r _ [8, 9, 10, 11, 12, 13, 14, 15, 16, 17, 18, 19, 20, 21, 22, 23, 46, 47, 48, 49, 50, 51] rfl (by decide +kernel)
set_option maxRecDepth 20000 in
theorem gX11_back_X0_takeBack : GoodIn wsX11_back (wsV RX11 188 RX0 yX0_takeBack wsX0_takeBack) := goodIn_app (goodIn_r _ [4, 5, 6, 7] rfl (by decide +kernel)) ggX11_back_X0_takeBack
theorem dX11_back_8 : decode cX11_back 8 = .ok (.invokevirtual 188, 3) := by decide +kernel
theorem dX11_back_11 : decode cX11_back 11 = .ok (.ifCond .ne 5, 3) := by decide +kernel
theorem dX11_back_16 : decode cX11_back 16 = .ok (.aload_n 0, 1) := by decide +kernel
theorem dX11_back_17 : decode cX11_back 17 = .ok (.getfield 86, 3) := by decide +kernel
set_option maxRecDepth 20000 in
theorem ggX11_back_X1_forgetFreshness : GoodIn wsX11_back wsX1_forgetFreshness := goodIn_r _ [28, 29, 52, 53, 54, 55, 56, 57, 58, 59, 60, 61, 62, 63, 64, 65, 66, 67, 68, 69, 70, 71] rfl (by decide +kernel)
set_option maxRecDepth 20000 in
theorem gX11_back_X1_forgetFreshness : GoodIn wsX11_back (wsV RX11 143 RX1 yX1_forgetFreshness wsX1_forgetFreshness) := goodIn_app (goodIn_r _ [24, 25, 26, 27] rfl (by decide +kernel)) ggX11_back_X1_forgetFreshness
theorem dX11_back_20 : decode cX11_back 20 = .ok (.invokevirtual 143, 3) := by decide +kernel
theorem dX11_back_23 : decode cX11_back 23 = .ok (.aload_n 0, 1) := by decide +kernel
theorem dX11_back_24 : decode cX11_back 24 = .ok (.getfield 59, 3) := by decide +kernel
set_option maxRecDepth 20000 in
theorem ggX11_back_X0_length : GoodIn wsX11_back wsX0_length := goodIn_r _ [33, 9, 46, 47, 48, 49] rfl (by decide +kernel)
set_option maxRecDepth 20000 in
theorem gX11_back_X0_length : GoodIn wsX11_back (wsV RX11 151 RX0 yX0_length wsX0_length) := goodIn_app (goodIn_r _ [30, 31, 32, 7] rfl (by decide +kernel)) ggX11_back_X0_length
theorem dX11_back_27 : decode cX11_back 27 = .ok (.invokevirtual 151, 3) := by decide +kernel
theorem dX11_back_30 : decode cX11_back 30 = .ok (.ireturn, 1) := by decide +kernel
theorem dX11_back_14 : decode cX11_back 14 = .ok (.iconst (-1), 1) := by decide +kernel
theorem dX11_back_15 : decode cX11_back 15 = .ok (.ireturn, 1) := by decide +kernel

end

/-! 59j.bec -/
section
set_option maxHeartbeats 40000000 in
set_option maxRecDepth 100000 in
theorem f_X12_bec (l : Launch) (dC : Nat → ClassId) (dI : Nat → Nat → Nat) (cI cS : ClassId) (sz : Nat) (oM : Nat) (rw : Nat) (mT : Nat) (mS : Nat) (mX : Nat) (mL : Nat) (mB : Nat) (mD : Nat) (m1 : Nat) (m2 : Nat) (mR : Nat) (x1 : Nat) (x2 : Nat) (x3 : Nat) (mH : Nat) (mY : Nat) (mE : Nat) (mW : Nat) (mO : Nat) (y1 : Nat) (y2 : Nat) (y3 : Nat) (y4 : Nat) (mZ : Nat) (cw : Nat) (zt : Int32) (zp : Int32) (zf : Int32) (zh : Int32) (zr : Int32) (zc : Int32) (zy : Int32) (za : Int32) (zb : Int32) (zs : Int32) (zq : Int32) (zw : Int32) (ze : Int32) (zn : Int32) (zm : Int32) (zl : Int32) (zk : Int32) (zd : Int32) (eS : Nat → Int32) (eX : Nat → Int32) (fr : Nat → Int32) (n : Int32) (g_zt : 0 ≤ zt.toInt ∧ zt.toInt ≤ 900) (g_zp : 0 ≤ zp.toInt ∧ zp.toInt ≤ 20) (g_zf : 0 ≤ zf.toInt ∧ zf.toInt ≤ 19) (g_zh : 0 ≤ zh.toInt ∧ zh.toInt ≤ 6) (g_zr : 0 ≤ zr.toInt ∧ zr.toInt ≤ 258) (g_zc : 0 ≤ zc.toInt ∧ zc.toInt ≤ 300) (g_zy : 0 ≤ zy.toInt ∧ zy.toInt ≤ 65536) (g_za : 0 ≤ za.toInt ∧ za.toInt ≤ 5) (g_zb : 0 ≤ zb.toInt ∧ zb.toInt ≤ 5) (g_zs : 0 ≤ zs.toInt ∧ zs.toInt ≤ 2000000) (g_zq : -1 ≤ zq.toInt ∧ zq.toInt ≤ 2000000) (g_zn : 0 ≤ zn.toInt ∧ zn.toInt ≤ 2600) (g_zm : 0 ≤ zm.toInt ∧ zm.toInt ≤ 2600) (g_zk : 0 ≤ zk.toInt ∧ zk.toInt ≤ 300) (g_eS : rg 0 300 eS) (g_eX : rg 0 65535 eX) (g_n : 0 ≤ n.toInt ∧ n.toInt ≤ 300) (hcw : n.toInt ≤ (cw : Int)) (hcw2 : cw ≤ 6300) (hrow : prg n.toInt 0 65535 fr) (hzs : zs.toInt ≤ 1000000) : Met l yX12_become wsX12_become ({ frames := 0, cells := 0, slots := 0, locals := 0 } : Room) (va_Pc [.ref oM, .ref rw, .int n] (fun U => U.heap.size = sz ∧ va_P (dC, dI) vwCl [(oM, .inr (12, [.ref mT, .int zt, .ref mS, .ref mX, .int zp, .int zf, .ref mL, .ref mB, .ref mD, .ref m1, .ref m2, .int zh, .ref mR, .int zr, .ref x1, .ref x2, .ref x3, .int zc, .ref mH, .int zy, .int za, .int zb, .int zs, .int zq, .int zw, .int ze, .ref mY, .int zn, .ref mE, .int zm, .int zl, .ref mW, .int zk, .ref mO, .int zd, .ref y1, .ref y2, .ref y3, .ref y4, .ref mZ])), (mS, .inl (cI, 21, .inl eS)), (mX, .inl (cI, 6300, .inl eX)), (rw, .inl (cI, cw, .inl fr))] U.heap ∧ va_K (dC, dI) vwCl [(cI, .int), (cS, .short)] U ∧ va_D (fun _ => True) [(oM, .inr (12, [.ref mT, .int zt, .ref mS, .ref mX, .int zp, .int zf, .ref mL, .ref mB, .ref mD, .ref m1, .ref m2, .int zh, .ref mR, .int zr, .ref x1, .ref x2, .ref x3, .int zc, .ref mH, .int zy, .int za, .int zb, .int zs, .int zq, .int zw, .int ze, .ref mY, .int zn, .ref mE, .int zm, .int zl, .ref mW, .int zk, .ref mO, .int zd, .ref y1, .ref y2, .ref y3, .ref y4, .ref mZ])), (mS, .inl (cI, 21, .inl eS)), (mX, .inl (cI, 6300, .inl eX)), (rw, .inl (cI, cw, .inl fr))])) (va_Qv (fun (_ : Unit) => True) (fun _ t => ∃ (zp' : Int32) (zf' : Int32) (zs' : Int32) (eS' : Nat → Int32) (eX' : Nat → Int32), va_P (dC, dI) vwCl [(oM, .inr (12, [.ref mT, .int zt, .ref mS, .ref mX, .int zp', .int zf', .ref mL, .ref mB, .ref mD, .ref m1, .ref m2, .int zh, .ref mR, .int zr, .ref x1, .ref x2, .ref x3, .int zc, .ref mH, .int zy, .int za, .int zb, .int zs', .int zq, .int zw, .int ze, .ref mY, .int zn, .ref mE, .int zm, .int zl, .ref mW, .int zk, .ref mO, .int zd, .ref y1, .ref y2, .ref y3, .ref y4, .ref mZ])), (mS, .inl (cI, 21, .inl eS')), (mX, .inl (cI, 6300, .inl eX')), (rw, .inl (cI, cw, .inl fr))] t.heap ∧ va_D (va_A [(oM, .inr (12, [.ref mT, .int zt, .ref mS, .ref mX, .int zp, .int zf, .ref mL, .ref mB, .ref mD, .ref m1, .ref m2, .int zh, .ref mR, .int zr, .ref x1, .ref x2, .ref x3, .int zc, .ref mH, .int zy, .int za, .int zb, .int zs, .int zq, .int zw, .int ze, .ref mY, .int zn, .ref mE, .int zm, .int zl, .ref mW, .int zk, .ref mO, .int zd, .ref y1, .ref y2, .ref y3, .ref y4, .ref mZ])), (mS, .inl (cI, 21, .inl eS)), (mX, .inl (cI, 6300, .inl eX)), (rw, .inl (cI, cw, .inl fr))] sz) [(oM, .inr (12, [.ref mT, .int zt, .ref mS, .ref mX, .int zp', .int zf', .ref mL, .ref mB, .ref mD, .ref m1, .ref m2, .int zh, .ref mR, .int zr, .ref x1, .ref x2, .ref x3, .int zc, .ref mH, .int zy, .int za, .int zb, .int zs', .int zq, .int zw, .int ze, .ref mY, .int zn, .ref mE, .int zm, .int zl, .ref mW, .int zk, .ref mO, .int zd, .ref y1, .ref y2, .ref y3, .ref y4, .ref mZ])), (mS, .inl (cI, 21, .inl eS')), (mX, .inl (cI, 6300, .inl eX')), (rw, .inl (cI, cw, .inl fr))] ∧ (0 ≤ zp'.toInt ∧ zp'.toInt ≤ 20) ∧ (0 ≤ zf'.toInt ∧ zf'.toInt ≤ 19) ∧ (0 ≤ zs'.toInt ∧ zs'.toInt ≤ 2000000) ∧ (rg 0 300 eS') ∧ (rg 0 65535 eX') ∧ (zs'.toInt = zs.toInt + 1) ∧ (F_bR zp zp' zf zf' n eS eS' eX eX' fr)) (va_A [(oM, .inr (12, [.ref mT, .int zt, .ref mS, .ref mX, .int zp, .int zf, .ref mL, .ref mB, .ref mD, .ref m1, .ref m2, .int zh, .ref mR, .int zr, .ref x1, .ref x2, .ref x3, .int zc, .ref mH, .int zy, .int za, .int zb, .int zs, .int zq, .int zw, .int ze, .ref mY, .int zn, .ref mE, .int zm, .int zl, .ref mW, .int zk, .ref mO, .int zd, .ref y1, .ref y2, .ref y3, .ref y4, .ref mZ])), (mS, .inl (cI, 21, .inl eS)), (mX, .inl (cI, 6300, .inl eX)), (rw, .inl (cI, cw, .inl fr))] sz)) 0 0 (va_A [(oM, .inr (12, [.ref mT, .int zt, .ref mS, .ref mX, .int zp, .int zf, .ref mL, .ref mB, .ref mD, .ref m1, .ref m2, .int zh, .ref mR, .int zr, .ref x1, .ref x2, .ref x3, .int zc, .ref mH, .int zy, .int za, .int zb, .int zs, .int zq, .int zw, .int ze, .ref mY, .int zn, .ref mE, .int zm, .int zl, .ref mW, .int zk, .ref mO, .int zd, .ref y1, .ref y2, .ref y3, .ref y4, .ref mZ])), (mS, .inl (cI, 21, .inl eS)), (mX, .inl (cI, 6300, .inl eX)), (rw, .inl (cI, cw, .inl fr))] sz) := by
  refine Met.ofW (cc := cX12_become) (maxL := 5) (ret := none) (by decide) rfl ?_
  intro p e s m args below meth c s₁ B hml hv
  obtain ⟨rfl, hsz, hP, hK, hD0⟩ := hv
  have hx := B.exec
  have hb := B.bytes
  have hr := B.returns
  have hts := atoms_spec (ws := wsX12_become) B.pre
  have hown : s.vm.findClass RX12 = some m.cls := findClass_of_methodNamed B.named
  have hlocks := B.notSynchronized
  have in_X12 : ∀ w ∈ wsX120, w ∈ wsX12_become := fun _ h => List.mem_cons_of_mem _ (List.mem_append_right _ (h))
  subst hsz
  have hD := hD0.self (sz := s.heap.size)
  generalize hAe : va_A [(oM, .inr (12, [.ref mT, .int zt, .ref mS, .ref mX, .int zp, .int zf, .ref mL, .ref mB, .ref mD, .ref m1, .ref m2, .int zh, .ref mR, .int zr, .ref x1, .ref x2, .ref x3, .int zc, .ref mH, .int zy, .int za, .int zb, .int zs, .int zq, .int zw, .int ze, .ref mY, .int zn, .ref mE, .int zm, .int zl, .ref mW, .int zk, .ref mO, .int zd, .ref y1, .ref y2, .ref y3, .ref y4, .ref mZ])), (mS, .inl (cI, 21, .inl eS)), (mX, .inl (cI, 6300, .inl eX)), (rw, .inl (cI, cw, .inl fr))] s.heap.size = A at hD ⊢
  have hA : ∀ q : Nat, s.heap.size ≤ q → A q := fun q h => by rw [← hAe]; exact Or.inr h
  have hS : va_S A s.heap s.heap [] := va_S.rf
  have hP : va_P (dC, dI) vwCl [(oM, .inr (12, [.ref mT, .int zt, .ref mS, .ref mX, .int zp, .int zf, .ref mL, .ref mB, .ref mD, .ref m1, .ref m2, .int zh, .ref mR, .int zr, .ref x1, .ref x2, .ref x3, .int zc, .ref mH, .int zy, .int za, .int zb, .int zs, .int zq, .int zw, .int ze, .ref mY, .int zn, .ref mE, .int zm, .int zl, .ref mW, .int zk, .ref mO, .int zd, .ref y1, .ref y2, .ref y3, .ref y4, .ref mZ])), (mS, .inl (cI, 21, .inl eS)), (mX, .inl (cI, 6300, .inl eX)), (rw, .inl (cI, cw, .inl fr))] s.heap := hP
  have hl := lv_entry ([.ref oM, .ref rw, .int n]) (n := 5) (Nat.le_of_ble_eq_true rfl)
  rw [lg_entry_eq]
  generalize (lg_sl ([.ref oM, .ref rw, .int n]) ++ List.replicate (5 - (lg_sl ([.ref oM, .ref rw, .int n])).length) Slot.unset).toArray = ls at hl ⊢
  have hl : lv_has ls 5 [(0, .ref oM), (1, .ref rw), (2, .int n)] := hl
  obtain ⟨QQ, hQQ⟩ : ∃ QQ : Array Value → State → Outcome → State → Prop, QQ = va_Qv (fun (_ : Unit) => True) (fun _ t => ∃ (zp' : Int32) (zf' : Int32) (zs' : Int32) (eS' : Nat → Int32) (eX' : Nat → Int32), va_P (dC, dI) vwCl [(oM, .inr (12, [.ref mT, .int zt, .ref mS, .ref mX, .int zp', .int zf', .ref mL, .ref mB, .ref mD, .ref m1, .ref m2, .int zh, .ref mR, .int zr, .ref x1, .ref x2, .ref x3, .int zc, .ref mH, .int zy, .int za, .int zb, .int zs', .int zq, .int zw, .int ze, .ref mY, .int zn, .ref mE, .int zm, .int zl, .ref mW, .int zk, .ref mO, .int zd, .ref y1, .ref y2, .ref y3, .ref y4, .ref mZ])), (mS, .inl (cI, 21, .inl eS')), (mX, .inl (cI, 6300, .inl eX')), (rw, .inl (cI, cw, .inl fr))] t.heap ∧ va_D A [(oM, .inr (12, [.ref mT, .int zt, .ref mS, .ref mX, .int zp', .int zf', .ref mL, .ref mB, .ref mD, .ref m1, .ref m2, .int zh, .ref mR, .int zr, .ref x1, .ref x2, .ref x3, .int zc, .ref mH, .int zy, .int za, .int zb, .int zs', .int zq, .int zw, .int ze, .ref mY, .int zn, .ref mE, .int zm, .int zl, .ref mW, .int zk, .ref mO, .int zd, .ref y1, .ref y2, .ref y3, .ref y4, .ref mZ])), (mS, .inl (cI, 21, .inl eS')), (mX, .inl (cI, 6300, .inl eX')), (rw, .inl (cI, cw, .inl fr))] ∧ (0 ≤ zp'.toInt ∧ zp'.toInt ≤ 20) ∧ (0 ≤ zf'.toInt ∧ zf'.toInt ≤ 19) ∧ (0 ≤ zs'.toInt ∧ zs'.toInt ≤ 2000000) ∧ (rg 0 300 eS') ∧ (rg 0 65535 eX') ∧ (zs'.toInt = zs.toInt + 1) ∧ (F_bR zp zp' zf zf' n eS eS' eX eX' fr)) A := ⟨_, rfl⟩
  rw [← hQQ]
  have gS0 := g_eS 0
  refine lv_aload_n hx hb dX12_become_0 rfl (lv_at hl 0 rfl) ?_
  refine va_get (D := (dC, dI)) (ci := 12) (v := .int zp) (C := RX12) (T := TX12) (N := 40) hx hb hts in_X12 hown hK hP 0 rfl rfl 4 (by decide) (hts (.fieldLink RX12 142 "TextMenderModel" "past" "I") (List.mem_of_getElem? (i := 1) rfl)) (fun _ h9 => h9) rfl dX12_become_1 ?_
  refine lv_bipush (v := 20) hx hb dX12_become_4 (by decide) ?_
  refine lv_icmp_ne (tgt := 25) hx hb dX12_become_6 (by decide) (fun c_1 => ?_) (fun c_1 => ?_)
  · have tc_1 : ¬ zp.toInt = 20 := v_ne c_1
    refine lv_aload_n hx hb dX12_become_25 rfl (lv_at hl 0 rfl) ?_
    refine lv_dup hx hb dX12_become_26 rfl ?_
    refine va_get (D := (dC, dI)) (ci := 12) (v := .int zp) (C := RX12) (T := TX12) (N := 40) hx hb hts in_X12 hown hK hP 0 rfl rfl 4 (by decide) (hts (.fieldLink RX12 142 "TextMenderModel" "past" "I") (List.mem_of_getElem? (i := 1) rfl)) (fun _ h9 => h9) rfl dX12_become_27 ?_
    refine lv_iconst (v := 1) hx hb dX12_become_30 (by decide) ?_
    refine lv_iadd hx hb dX12_become_31 ?_
    refine lv_topi (fun x_2 ex_2 => ?_)
    have tx_2 : x_2.toInt = zp.toInt + 1 := v_add ex_2 (by show -2147483648 ≤ zp.toInt + 1; omega) (by show zp.toInt + 1 < 2147483648; omega)
    refine va_put (D := (dC, dI)) (ci := 12) (v := .int x_2) (ty := .int) (C := RX12) (T := TX12) (N := 40) hx hb hts in_X12 tyX12 tyX12_ok nmX12 hown hK hP hD hS 0 rfl rfl 4 (by decide) (hts (.fieldLink RX12 142 "TextMenderModel" "past" "I") (List.mem_of_getElem? (i := 1) rfl)) (fun _ h9 => h9) rfl (by decide +kernel) rfl rfl (Nat.le_of_ble_eq_true rfl) dX12_become_32 (fun H locs hPn hDn hSn => ?_)
    clear hP hD hS
    have hP : va_P (dC, dI) vwCl [(oM, .inr (12, [.ref mT, .int zt, .ref mS, .ref mX, .int x_2, .int zf, .ref mL, .ref mB, .ref mD, .ref m1, .ref m2, .int zh, .ref mR, .int zr, .ref x1, .ref x2, .ref x3, .int zc, .ref mH, .int zy, .int za, .int zb, .int zs, .int zq, .int zw, .int ze, .ref mY, .int zn, .ref mE, .int zm, .int zl, .ref mW, .int zk, .ref mO, .int zd, .ref y1, .ref y2, .ref y3, .ref y4, .ref mZ])), (mS, .inl (cI, 21, .inl eS)), (mX, .inl (cI, 6300, .inl eX)), (rw, .inl (cI, cw, .inl fr))] H := hPn
    have hD : va_D A [(oM, .inr (12, [.ref mT, .int zt, .ref mS, .ref mX, .int x_2, .int zf, .ref mL, .ref mB, .ref mD, .ref m1, .ref m2, .int zh, .ref mR, .int zr, .ref x1, .ref x2, .ref x3, .int zc, .ref mH, .int zy, .int za, .int zb, .int zs, .int zq, .int zw, .int ze, .ref mY, .int zn, .ref mE, .int zm, .int zl, .ref mW, .int zk, .ref mO, .int zd, .ref y1, .ref y2, .ref y3, .ref y4, .ref mZ])), (mS, .inl (cI, 21, .inl eS)), (mX, .inl (cI, 6300, .inl eX)), (rw, .inl (cI, cw, .inl fr))] := hDn
    have hS := hSn
    clear hPn hDn hSn
    refine lv_iconst (v := 1) hx hb dX12_become_35 (by decide) ?_
    refine lv_aload_n hx hb dX12_become_36 rfl (lv_at hl 0 rfl) ?_
    refine va_get (D := (dC, dI)) (ci := 12) (v := .int zf) (C := RX12) (T := TX12) (N := 40) hx hb hts in_X12 hown hK hP 0 rfl rfl 5 (by decide) (hts (.fieldLink RX12 145 "TextMenderModel" "firstPast" "I") (List.mem_of_getElem? (i := 2) rfl)) (fun _ h9 => h9) rfl dX12_become_37 ?_
    refine lv_aload_n hx hb dX12_become_40 rfl (lv_at hl 0 rfl) ?_
    refine va_get (D := (dC, dI)) (ci := 12) (v := .int x_2) (C := RX12) (T := TX12) (N := 40) hx hb hts in_X12 hown hK hP 0 rfl rfl 4 (by decide) (hts (.fieldLink RX12 142 "TextMenderModel" "past" "I") (List.mem_of_getElem? (i := 1) rfl)) (fun _ h9 => h9) rfl dX12_become_41 ?_
    refine lv_iadd hx hb dX12_become_44 ?_
    refine lv_topi (fun x_3 ex_3 => ?_)
    have tx_3 : x_3.toInt = zf.toInt + x_2.toInt := v_add ex_3 (by show -2147483648 ≤ zf.toInt + x_2.toInt; omega) (by show zf.toInt + x_2.toInt < 2147483648; omega)
    refine lv_iconst (v := 1) hx hb dX12_become_45 (by decide) ?_
    refine lv_isub hx hb dX12_become_46 ?_
    refine lv_topi (fun x_4 ex_4 => ?_)
    have tx_4 : x_4.toInt = x_3.toInt - 1 := v_sub ex_4 (by show -2147483648 ≤ x_3.toInt - 1; omega) (by show x_3.toInt - 1 < 2147483648; omega)
    refine lv_bipush (v := 20) hx hb dX12_become_47 (by decide) ?_
    refine lv_irem hx hb dX12_become_49 (by decide) ?_
    refine lv_topi (fun x_5 ex_5 => ?_)
    have tx_5 : x_5.toInt = x_4.toInt % 20 := v_rem ex_5 (by omega) (by decide)
    refine lv_iadd hx hb dX12_become_50 ?_
    refine lv_topi (fun x_6 ex_6 => ?_)
    have tx_6 : x_6.toInt = 1 + x_5.toInt := v_add ex_6 (by show -2147483648 ≤ 1 + x_5.toInt; omega) (by show 1 + x_5.toInt < 2147483648; omega)
    refine lv_istore_n (lv' := [(3, .int x_6), (0, .ref oM), (1, .ref rw), (2, .int n)]) hx hb dX12_become_51 rfl hl (by decide) rfl (fun ls hl => ?_)
    refine lv_aload_n hx hb dX12_become_52 rfl (lv_at hl 1 rfl) ?_
    refine va_get (D := (dC, dI)) (ci := 12) (v := .ref mS) (C := RX12) (T := TX12) (N := 40) hx hb hts in_X12 hown hK hP 0 rfl rfl 2 (by decide) (hts (.fieldLink RX12 13 "TextMenderModel" "sizes" "[I") (List.mem_of_getElem? (i := 3) rfl)) (fun _ h9 => h9) rfl dX12_become_53 ?_
    refine lv_iload_n hx hb dX12_become_56 rfl (lv_at hl 0 rfl) ?_
    refine lv_aload_n hx hb dX12_become_57 rfl (lv_at hl 1 rfl) ?_
    refine va_get (D := (dC, dI)) (ci := 12) (v := .ref mS) (C := RX12) (T := TX12) (N := 40) hx hb hts in_X12 hown hK hP 0 rfl rfl 2 (by decide) (hts (.fieldLink RX12 13 "TextMenderModel" "sizes" "[I") (List.mem_of_getElem? (i := 3) rfl)) (fun _ h9 => h9) rfl dX12_become_58 ?_
    refine lv_iconst (v := 0) hx hb dX12_become_61 (by decide) ?_
    refine va_iald hx hb hK hP 1 0 rfl rfl (by unfold vp_in; decide) dX12_become_62 ?_
    refine lv_topi (fun x_7 ex_7 => ?_)
    have tx_7 : 0 ≤ x_7.toInt ∧ x_7.toInt ≤ 300 := rg_at g_eS ex_7
    refine va_iast hx hb hK hP hD hS 1 0 rfl rfl (v_in (by omega)) dX12_become_63 (fun H locs hPn hDn hSn => ?_)
    clear hP hD hS
    have hP : va_P (dC, dI) vwCl [(oM, .inr (12, [.ref mT, .int zt, .ref mS, .ref mX, .int x_2, .int zf, .ref mL, .ref mB, .ref mD, .ref m1, .ref m2, .int zh, .ref mR, .int zr, .ref x1, .ref x2, .ref x3, .int zc, .ref mH, .int zy, .int za, .int zb, .int zs, .int zq, .int zw, .int ze, .ref mY, .int zn, .ref mE, .int zm, .int zl, .ref mW, .int zk, .ref mO, .int zd, .ref y1, .ref y2, .ref y3, .ref y4, .ref mZ])), (mS, .inl (cI, 21, .inl (upd eS (x_6 : Int32).toNatClampNeg x_7))), (mX, .inl (cI, 6300, .inl eX)), (rw, .inl (cI, cw, .inl fr))] H := hPn
    have hD : va_D A [(oM, .inr (12, [.ref mT, .int zt, .ref mS, .ref mX, .int x_2, .int zf, .ref mL, .ref mB, .ref mD, .ref m1, .ref m2, .int zh, .ref mR, .int zr, .ref x1, .ref x2, .ref x3, .int zc, .ref mH, .int zy, .int za, .int zb, .int zs, .int zq, .int zw, .int ze, .ref mY, .int zn, .ref mE, .int zm, .int zl, .ref mW, .int zk, .ref mO, .int zd, .ref y1, .ref y2, .ref y3, .ref y4, .ref mZ])), (mS, .inl (cI, 21, .inl (upd eS (x_6 : Int32).toNatClampNeg x_7))), (mX, .inl (cI, 6300, .inl eX)), (rw, .inl (cI, cw, .inl fr))] := hDn
    have hS := hSn
    clear hPn hDn hSn
    obtain ⟨f_8, ef_8⟩ : ∃ g : Nat → Int32, g = upd eS (x_6 : Int32).toNatClampNeg x_7 := ⟨_, rfl⟩
    rw [← ef_8] at hP hD
    have g_f8 : rg 0 300 f_8 := rg_upd ef_8 g_eS (by omega)
    refine lv_iconst (v := 0) hx hb dX12_become_64 (by decide) ?_
    refine lv_istore (lv' := [(4, .int 0), (3, .int x_6), (0, .ref oM), (1, .ref rw), (2, .int n)]) hx hb dX12_become_65 hl (by decide) rfl (fun ls hl => ?_)
    have LOOP_67 : ∀ (k_67 : Nat) (k : Int32) (eXa : Nat → Int32) (H : Heap) (locs : List Loc) (ls : Array Slot), MSd (300 - k.toInt : Int) k_67 → (0 ≤ k.toInt ∧ k.toInt ≤ 300) → (rg 0 65535 eXa) → (k.toInt ≤ (eS 0).toInt) → (CPB (300 * x_6.toInt) k.toInt eX eXa eX) → va_P (dC, dI) vwCl [(oM, .inr (12, [.ref mT, .int zt, .ref mS, .ref mX, .int x_2, .int zf, .ref mL, .ref mB, .ref mD, .ref m1, .ref m2, .int zh, .ref mR, .int zr, .ref x1, .ref x2, .ref x3, .int zc, .ref mH, .int zy, .int za, .int zb, .int zs, .int zq, .int zw, .int ze, .ref mY, .int zn, .ref mE, .int zm, .int zl, .ref mW, .int zk, .ref mO, .int zd, .ref y1, .ref y2, .ref y3, .ref y4, .ref mZ])), (mS, .inl (cI, 21, .inl f_8)), (mX, .inl (cI, 6300, .inl eXa)), (rw, .inl (cI, cw, .inl fr))] H → va_D A [(oM, .inr (12, [.ref mT, .int zt, .ref mS, .ref mX, .int x_2, .int zf, .ref mL, .ref mB, .ref mD, .ref m1, .ref m2, .int zh, .ref mR, .int zr, .ref x1, .ref x2, .ref x3, .int zc, .ref mH, .int zy, .int za, .int zb, .int zs, .int zq, .int zw, .int ze, .ref mY, .int zn, .ref mE, .int zm, .int zl, .ref mW, .int zk, .ref mO, .int zd, .ref y1, .ref y2, .ref y3, .ref y4, .ref mZ])), (mS, .inl (cI, 21, .inl f_8)), (mX, .inl (cI, 6300, .inl eXa)), (rw, .inl (cI, cw, .inl fr))] → va_S A s.heap H locs → lv_has ls 5 [(4, .int k), (3, .int x_6), (0, .ref oM), (1, .ref rw), (2, .int n)] → W p l e (headSpec wsX12_become ({ frames := 0, cells := 0, slots := 0, locals := 0 } : Room)).room s m ([.ref oM, .ref rw, .int n] : List Value).toArray below meth c H locs 0 0 (MQ below QQ ([.ref oM, .ref rw, .int n] : List Value).toArray s 0 0 A) (F0 m 67 ls []) := by
      clear hP hD hS hl
      intro k_67
      induction k_67 with
      | zero =>
        intro k eXa H locs ls hm_67 g_k g_eXa hks hcb hP hD hS hl
        exact ms_0 hm_67
      | succ k_67 ih_67 =>
        intro k eXa H locs ls hm_67 g_k g_eXa hks hcb hP hD hS hl
        refine lv_iload hx hb dX12_become_67 (lv_at hl 0 rfl) ?_
        refine lv_aload_n hx hb dX12_become_69 rfl (lv_at hl 2 rfl) ?_
        refine va_get (D := (dC, dI)) (ci := 12) (v := .ref mS) (C := RX12) (T := TX12) (N := 40) hx hb hts in_X12 hown hK hP 0 rfl rfl 2 (by decide) (hts (.fieldLink RX12 13 "TextMenderModel" "sizes" "[I") (List.mem_of_getElem? (i := 3) rfl)) (fun _ h9 => h9) rfl dX12_become_70 ?_
        refine lv_iconst (v := 0) hx hb dX12_become_73 (by decide) ?_
        refine va_iald hx hb hK hP 1 0 rfl rfl (by unfold vp_in; decide) dX12_become_74 ?_
        refine lv_topi (fun x_9 ex_9 => ?_)
        have tx_9 : 0 ≤ x_9.toInt ∧ x_9.toInt ≤ 300 := rg_at g_f8 ex_9
        have hs_x_9 : x_9 = eS 0 := up0 ef_8 (by omega) ex_9
        have hi_x_9 : x_9.toInt = (eS 0).toInt := v_eq hs_x_9
        refine lv_icmp_ge (tgt := 104) hx hb dX12_become_75 (by decide) (fun c_10 => ?_) (fun c_10 => ?_)
        · have tc_10 : x_9.toInt ≤ k.toInt := v_le c_10
          refine lv_aload_n hx hb dX12_become_104 rfl (lv_at hl 2 rfl) ?_
          refine va_get (D := (dC, dI)) (ci := 12) (v := .ref mS) (C := RX12) (T := TX12) (N := 40) hx hb hts in_X12 hown hK hP 0 rfl rfl 2 (by decide) (hts (.fieldLink RX12 13 "TextMenderModel" "sizes" "[I") (List.mem_of_getElem? (i := 3) rfl)) (fun _ h9 => h9) rfl dX12_become_105 ?_
          refine lv_iconst (v := 0) hx hb dX12_become_108 (by decide) ?_
          refine lv_iload_n hx hb dX12_become_109 rfl (lv_at hl 4 rfl) ?_
          refine va_iast hx hb hK hP hD hS 1 0 rfl rfl (by unfold vp_in; decide) dX12_become_110 (fun H locs hPn hDn hSn => ?_)
          clear hP hD hS
          have hP : va_P (dC, dI) vwCl [(oM, .inr (12, [.ref mT, .int zt, .ref mS, .ref mX, .int x_2, .int zf, .ref mL, .ref mB, .ref mD, .ref m1, .ref m2, .int zh, .ref mR, .int zr, .ref x1, .ref x2, .ref x3, .int zc, .ref mH, .int zy, .int za, .int zb, .int zs, .int zq, .int zw, .int ze, .ref mY, .int zn, .ref mE, .int zm, .int zl, .ref mW, .int zk, .ref mO, .int zd, .ref y1, .ref y2, .ref y3, .ref y4, .ref mZ])), (mS, .inl (cI, 21, .inl (upd f_8 (0 : Int32).toNatClampNeg n))), (mX, .inl (cI, 6300, .inl eXa)), (rw, .inl (cI, cw, .inl fr))] H := hPn
          have hD : va_D A [(oM, .inr (12, [.ref mT, .int zt, .ref mS, .ref mX, .int x_2, .int zf, .ref mL, .ref mB, .ref mD, .ref m1, .ref m2, .int zh, .ref mR, .int zr, .ref x1, .ref x2, .ref x3, .int zc, .ref mH, .int zy, .int za, .int zb, .int zs, .int zq, .int zw, .int ze, .ref mY, .int zn, .ref mE, .int zm, .int zl, .ref mW, .int zk, .ref mO, .int zd, .ref y1, .ref y2, .ref y3, .ref y4, .ref mZ])), (mS, .inl (cI, 21, .inl (upd f_8 (0 : Int32).toNatClampNeg n))), (mX, .inl (cI, 6300, .inl eXa)), (rw, .inl (cI, cw, .inl fr))] := hDn
          have hS := hSn
          clear hPn hDn hSn
          obtain ⟨f_11, ef_11⟩ : ∃ g : Nat → Int32, g = upd f_8 (0 : Int32).toNatClampNeg n := ⟨_, rfl⟩
          rw [← ef_11] at hP hD
          have g_f11 : rg 0 300 f_11 := rg_upd ef_11 g_f8 (by omega)
          refine lv_iconst (v := 0) hx hb dX12_become_111 (by decide) ?_
          refine lv_istore (lv' := [(4, .int 0), (3, .int x_6), (0, .ref oM), (1, .ref rw), (2, .int n)]) hx hb dX12_become_112 hl (by decide) rfl (fun ls hl => ?_)
          have LOOP_114 : ∀ (k_114 : Nat) (k2 : Int32) (eXb : Nat → Int32) (H : Heap) (locs : List Loc) (ls : Array Slot), MSd (300 - k2.toInt : Int) k_114 → (0 ≤ k2.toInt ∧ k2.toInt ≤ 300) → (rg 0 65535 eXb) → (k2.toInt ≤ n.toInt) → (CPB 0 k2.toInt eXa eXb fr) → va_P (dC, dI) vwCl [(oM, .inr (12, [.ref mT, .int zt, .ref mS, .ref mX, .int x_2, .int zf, .ref mL, .ref mB, .ref mD, .ref m1, .ref m2, .int zh, .ref mR, .int zr, .ref x1, .ref x2, .ref x3, .int zc, .ref mH, .int zy, .int za, .int zb, .int zs, .int zq, .int zw, .int ze, .ref mY, .int zn, .ref mE, .int zm, .int zl, .ref mW, .int zk, .ref mO, .int zd, .ref y1, .ref y2, .ref y3, .ref y4, .ref mZ])), (mS, .inl (cI, 21, .inl f_11)), (mX, .inl (cI, 6300, .inl eXb)), (rw, .inl (cI, cw, .inl fr))] H → va_D A [(oM, .inr (12, [.ref mT, .int zt, .ref mS, .ref mX, .int x_2, .int zf, .ref mL, .ref mB, .ref mD, .ref m1, .ref m2, .int zh, .ref mR, .int zr, .ref x1, .ref x2, .ref x3, .int zc, .ref mH, .int zy, .int za, .int zb, .int zs, .int zq, .int zw, .int ze, .ref mY, .int zn, .ref mE, .int zm, .int zl, .ref mW, .int zk, .ref mO, .int zd, .ref y1, .ref y2, .ref y3, .ref y4, .ref mZ])), (mS, .inl (cI, 21, .inl f_11)), (mX, .inl (cI, 6300, .inl eXb)), (rw, .inl (cI, cw, .inl fr))] → va_S A s.heap H locs → lv_has ls 5 [(4, .int k2), (3, .int x_6), (0, .ref oM), (1, .ref rw), (2, .int n)] → W p l e (headSpec wsX12_become ({ frames := 0, cells := 0, slots := 0, locals := 0 } : Room)).room s m ([.ref oM, .ref rw, .int n] : List Value).toArray below meth c H locs 0 0 (MQ below QQ ([.ref oM, .ref rw, .int n] : List Value).toArray s 0 0 A) (F0 m 114 ls []) := by
            clear hP hD hS hl
            intro k_114
            induction k_114 with
            | zero =>
              intro k2 eXb H locs ls hm_114 g_k2 g_eXb hkn hcc hP hD hS hl
              exact ms_0 hm_114
            | succ k_114 ih_114 =>
              intro k2 eXb H locs ls hm_114 g_k2 g_eXb hkn hcc hP hD hS hl
              refine lv_iload hx hb dX12_become_114 (lv_at hl 0 rfl) ?_
              refine lv_iload_n hx hb dX12_become_116 rfl (lv_at hl 4 rfl) ?_
              refine lv_icmp_ge (tgt := 137) hx hb dX12_become_117 (by decide) (fun c_12 => ?_) (fun c_12 => ?_)
              · have tc_12 : n.toInt ≤ k2.toInt := v_le c_12
                refine lv_aload_n hx hb dX12_become_137 rfl (lv_at hl 2 rfl) ?_
                refine lv_dup hx hb dX12_become_138 rfl ?_
                refine va_get (D := (dC, dI)) (ci := 12) (v := .int zs) (C := RX12) (T := TX12) (N := 40) hx hb hts in_X12 hown hK hP 0 rfl rfl 22 (by decide) (hts (.fieldLink RX12 148 "TextMenderModel" "state" "I") (List.mem_of_getElem? (i := 5) rfl)) (fun _ h9 => h9) rfl dX12_become_139 ?_
                refine lv_iconst (v := 1) hx hb dX12_become_142 (by decide) ?_
                refine lv_iadd hx hb dX12_become_143 ?_
                refine lv_topi (fun x_13 ex_13 => ?_)
                have tx_13 : x_13.toInt = zs.toInt + 1 := v_add ex_13 (by show -2147483648 ≤ zs.toInt + 1; omega) (by show zs.toInt + 1 < 2147483648; omega)
                refine va_put (D := (dC, dI)) (ci := 12) (v := .int x_13) (ty := .int) (C := RX12) (T := TX12) (N := 40) hx hb hts in_X12 tyX12 tyX12_ok nmX12 hown hK hP hD hS 0 rfl rfl 22 (by decide) (hts (.fieldLink RX12 148 "TextMenderModel" "state" "I") (List.mem_of_getElem? (i := 5) rfl)) (fun _ h9 => h9) rfl (by decide +kernel) rfl rfl (Nat.le_of_ble_eq_true rfl) dX12_become_144 (fun H locs hPn hDn hSn => ?_)
                clear hP hD hS
                have hP : va_P (dC, dI) vwCl [(oM, .inr (12, [.ref mT, .int zt, .ref mS, .ref mX, .int x_2, .int zf, .ref mL, .ref mB, .ref mD, .ref m1, .ref m2, .int zh, .ref mR, .int zr, .ref x1, .ref x2, .ref x3, .int zc, .ref mH, .int zy, .int za, .int zb, .int x_13, .int zq, .int zw, .int ze, .ref mY, .int zn, .ref mE, .int zm, .int zl, .ref mW, .int zk, .ref mO, .int zd, .ref y1, .ref y2, .ref y3, .ref y4, .ref mZ])), (mS, .inl (cI, 21, .inl f_11)), (mX, .inl (cI, 6300, .inl eXb)), (rw, .inl (cI, cw, .inl fr))] H := hPn
                have hD : va_D A [(oM, .inr (12, [.ref mT, .int zt, .ref mS, .ref mX, .int x_2, .int zf, .ref mL, .ref mB, .ref mD, .ref m1, .ref m2, .int zh, .ref mR, .int zr, .ref x1, .ref x2, .ref x3, .int zc, .ref mH, .int zy, .int za, .int zb, .int x_13, .int zq, .int zw, .int ze, .ref mY, .int zn, .ref mE, .int zm, .int zl, .ref mW, .int zk, .ref mO, .int zd, .ref y1, .ref y2, .ref y3, .ref y4, .ref mZ])), (mS, .inl (cI, 21, .inl f_11)), (mX, .inl (cI, 6300, .inl eXb)), (rw, .inl (cI, cw, .inl fr))] := hDn
                have hS := hSn
                clear hPn hDn hSn
                have hP9 := hP.sub (ws' := [(oM, .inr (12, [.ref mT, .int zt, .ref mS, .ref mX, .int x_2, .int zf, .ref mL, .ref mB, .ref mD, .ref m1, .ref m2, .int zh, .ref mR, .int zr, .ref x1, .ref x2, .ref x3, .int zc, .ref mH, .int zy, .int za, .int zb, .int x_13, .int zq, .int zw, .int ze, .ref mY, .int zn, .ref mE, .int zm, .int zl, .ref mW, .int zk, .ref mO, .int zd, .ref y1, .ref y2, .ref y3, .ref y4, .ref mZ])), (mS, .inl (cI, 21, .inl f_11)), (mX, .inl (cI, 6300, .inl eXb)), (rw, .inl (cI, cw, .inl fr))]) [0, 1, 2, 3] rfl
                have hD9 := hD.sub (ws' := [(oM, .inr (12, [.ref mT, .int zt, .ref mS, .ref mX, .int x_2, .int zf, .ref mL, .ref mB, .ref mD, .ref m1, .ref m2, .int zh, .ref mR, .int zr, .ref x1, .ref x2, .ref x3, .int zc, .ref mH, .int zy, .int za, .int zb, .int x_13, .int zq, .int zw, .int ze, .ref mY, .int zn, .ref mE, .int zm, .int zl, .ref mW, .int zk, .ref mO, .int zd, .ref y1, .ref y2, .ref y3, .ref y4, .ref mZ])), (mS, .inl (cI, 21, .inl f_11)), (mX, .inl (cI, 6300, .inl eXb)), (rw, .inl (cI, cw, .inl fr))]) [0, 1, 2, 3] (by decide +kernel) rfl
                rw [hQQ]
                exact W.vret hx hb hr (fun t ht hW => ⟨⟨(), rfl, trivial, ⟨x_2, zf, x_13, f_11, eXb, by rw [ht]; exact hP9, hD9, by omega, g_zf, by omega, g_f11, g_eXb, by show x_13.toInt = zs.toInt + 1; omega, bR_of (t := x_6) (by omega) (by omega) (by omega) ex_7 ef_8 ef_11 hcb (by omega) hcc (by omega)⟩⟩, hS.F ht⟩) hS.2.2 dX12_become_147
              · have tc_12 : k2.toInt < n.toInt := v_nle c_12
                refine lv_aload_n hx hb dX12_become_120 rfl (lv_at hl 2 rfl) ?_
                refine va_get (D := (dC, dI)) (ci := 12) (v := .ref mX) (C := RX12) (T := TX12) (N := 40) hx hb hts in_X12 hown hK hP 0 rfl rfl 3 (by decide) (hts (.fieldLink RX12 16 "TextMenderModel" "texts" "[I") (List.mem_of_getElem? (i := 4) rfl)) (fun _ h9 => h9) rfl dX12_become_121 ?_
                refine lv_iload hx hb dX12_become_124 (lv_at hl 0 rfl) ?_
                refine lv_aload_n hx hb dX12_become_126 rfl (lv_at hl 3 rfl) ?_
                refine lv_iload hx hb dX12_become_127 (lv_at hl 0 rfl) ?_
                refine va_iald hx hb hK hP 3 0 rfl rfl (v_in (by omega)) dX12_become_129 ?_
                refine lv_topi (fun x_14 ex_14 => ?_)
                have tp_x_14 := prg_at hrow ex_14 (by omega) (by omega)
                refine va_iast hx hb hK hP hD hS 2 0 rfl rfl (v_in (by omega)) dX12_become_130 (fun H locs hPn hDn hSn => ?_)
                clear hP hD hS
                have hP : va_P (dC, dI) vwCl [(oM, .inr (12, [.ref mT, .int zt, .ref mS, .ref mX, .int x_2, .int zf, .ref mL, .ref mB, .ref mD, .ref m1, .ref m2, .int zh, .ref mR, .int zr, .ref x1, .ref x2, .ref x3, .int zc, .ref mH, .int zy, .int za, .int zb, .int zs, .int zq, .int zw, .int ze, .ref mY, .int zn, .ref mE, .int zm, .int zl, .ref mW, .int zk, .ref mO, .int zd, .ref y1, .ref y2, .ref y3, .ref y4, .ref mZ])), (mS, .inl (cI, 21, .inl f_11)), (mX, .inl (cI, 6300, .inl (upd eXb (k2 : Int32).toNatClampNeg x_14))), (rw, .inl (cI, cw, .inl fr))] H := hPn
                have hD : va_D A [(oM, .inr (12, [.ref mT, .int zt, .ref mS, .ref mX, .int x_2, .int zf, .ref mL, .ref mB, .ref mD, .ref m1, .ref m2, .int zh, .ref mR, .int zr, .ref x1, .ref x2, .ref x3, .int zc, .ref mH, .int zy, .int za, .int zb, .int zs, .int zq, .int zw, .int ze, .ref mY, .int zn, .ref mE, .int zm, .int zl, .ref mW, .int zk, .ref mO, .int zd, .ref y1, .ref y2, .ref y3, .ref y4, .ref mZ])), (mS, .inl (cI, 21, .inl f_11)), (mX, .inl (cI, 6300, .inl (upd eXb (k2 : Int32).toNatClampNeg x_14))), (rw, .inl (cI, cw, .inl fr))] := hDn
                have hS := hSn
                clear hPn hDn hSn
                obtain ⟨f_15, ef_15⟩ : ∃ g : Nat → Int32, g = upd eXb (k2 : Int32).toNatClampNeg x_14 := ⟨_, rfl⟩
                rw [← ef_15] at hP hD
                have g_f15 : rg 0 65535 f_15 := rg_upd ef_15 g_eXb (by omega)
                obtain ⟨x_16, ex_16⟩ : ∃ y : Int32, y = k2 + 1 := ⟨_, rfl⟩
                have tx_16 : x_16.toInt = k2.toInt + 1 := v_add ex_16 (by show -2147483648 ≤ k2.toInt + 1; omega) (by show k2.toInt + 1 < 2147483648; omega)
                refine lv_iinc (v := x_16) (lv' := [(4, .int x_16), (3, .int x_6), (0, .ref oM), (1, .ref rw), (2, .int n)]) hx hb dX12_become_131 hl (k := 0) rfl (by rw [ex_16]; rfl) (by decide) rfl (fun ls hl => ?_)
                refine lv_goto (tgt := 114) hx hb dX12_become_134 (by decide) ?_
                exact ih_114 x_16 f_15 _ _ _ (ms_lt hm_114 (by show ((300 - x_16.toInt : Int)) < 300 - k2.toInt; omega) (by show (0 : Int) < 300 - k2.toInt; omega)) (by show 0 ≤ x_16.toInt ∧ x_16.toInt ≤ 300; omega) (g_f15) (by show x_16.toInt ≤ n.toInt; omega) (CPB_s hcc (by omega) (by omega) ex_14 ef_15 (by omega) (by omega)) hP hD hS (lv_sub hl [0, 1, 2, 3, 4] rfl)
          exact LOOP_114 _ 0 eXa _ _ _ (ms_s _) (by decide) (g_eXa) (by show 0 ≤ n.toInt; omega) (CPB_0 (by decide)) hP hD hS (lv_sub hl [0, 1, 2, 3, 4] rfl)
        · have tc_10 : k.toInt < x_9.toInt := v_nle c_10
          refine lv_aload_n hx hb dX12_become_78 rfl (lv_at hl 2 rfl) ?_
          refine va_get (D := (dC, dI)) (ci := 12) (v := .ref mX) (C := RX12) (T := TX12) (N := 40) hx hb hts in_X12 hown hK hP 0 rfl rfl 3 (by decide) (hts (.fieldLink RX12 16 "TextMenderModel" "texts" "[I") (List.mem_of_getElem? (i := 4) rfl)) (fun _ h9 => h9) rfl dX12_become_79 ?_
          refine lv_sipush (v := 300) hx hb dX12_become_82 (by decide) ?_
          refine lv_iload_n hx hb dX12_become_85 rfl (lv_at hl 1 rfl) ?_
          refine lv_imul hx hb dX12_become_86 ?_
          refine lv_topi (fun x_17 ex_17 => ?_)
          have tx_17 : x_17.toInt = 300 * x_6.toInt := v_mul ex_17 (by show -2147483648 ≤ 300 * x_6.toInt; omega) (by show 300 * x_6.toInt < 2147483648; omega)
          refine lv_iload hx hb dX12_become_87 (lv_at hl 0 rfl) ?_
          refine lv_iadd hx hb dX12_become_89 ?_
          refine lv_topi (fun x_18 ex_18 => ?_)
          have tx_18 : x_18.toInt = x_17.toInt + k.toInt := v_add ex_18 (by show -2147483648 ≤ x_17.toInt + k.toInt; omega) (by show x_17.toInt + k.toInt < 2147483648; omega)
          refine lv_aload_n hx hb dX12_become_90 rfl (lv_at hl 2 rfl) ?_
          refine va_get (D := (dC, dI)) (ci := 12) (v := .ref mX) (C := RX12) (T := TX12) (N := 40) hx hb hts in_X12 hown hK hP 0 rfl rfl 3 (by decide) (hts (.fieldLink RX12 16 "TextMenderModel" "texts" "[I") (List.mem_of_getElem? (i := 4) rfl)) (fun _ h9 => h9) rfl dX12_become_91 ?_
          refine lv_iload hx hb dX12_become_94 (lv_at hl 0 rfl) ?_
          refine va_iald hx hb hK hP 2 0 rfl rfl (v_in (by omega)) dX12_become_96 ?_
          refine lv_topi (fun x_19 ex_19 => ?_)
          have tx_19 : 0 ≤ x_19.toInt ∧ x_19.toInt ≤ 65535 := rg_at g_eXa ex_19
          refine va_iast hx hb hK hP hD hS 2 0 rfl rfl (v_in (by omega)) dX12_become_97 (fun H locs hPn hDn hSn => ?_)
          clear hP hD hS
          have hP : va_P (dC, dI) vwCl [(oM, .inr (12, [.ref mT, .int zt, .ref mS, .ref mX, .int x_2, .int zf, .ref mL, .ref mB, .ref mD, .ref m1, .ref m2, .int zh, .ref mR, .int zr, .ref x1, .ref x2, .ref x3, .int zc, .ref mH, .int zy, .int za, .int zb, .int zs, .int zq, .int zw, .int ze, .ref mY, .int zn, .ref mE, .int zm, .int zl, .ref mW, .int zk, .ref mO, .int zd, .ref y1, .ref y2, .ref y3, .ref y4, .ref mZ])), (mS, .inl (cI, 21, .inl f_8)), (mX, .inl (cI, 6300, .inl (upd eXa (x_18 : Int32).toNatClampNeg x_19))), (rw, .inl (cI, cw, .inl fr))] H := hPn
          have hD : va_D A [(oM, .inr (12, [.ref mT, .int zt, .ref mS, .ref mX, .int x_2, .int zf, .ref mL, .ref mB, .ref mD, .ref m1, .ref m2, .int zh, .ref mR, .int zr, .ref x1, .ref x2, .ref x3, .int zc, .ref mH, .int zy, .int za, .int zb, .int zs, .int zq, .int zw, .int ze, .ref mY, .int zn, .ref mE, .int zm, .int zl, .ref mW, .int zk, .ref mO, .int zd, .ref y1, .ref y2, .ref y3, .ref y4, .ref mZ])), (mS, .inl (cI, 21, .inl f_8)), (mX, .inl (cI, 6300, .inl (upd eXa (x_18 : Int32).toNatClampNeg x_19))), (rw, .inl (cI, cw, .inl fr))] := hDn
          have hS := hSn
          clear hPn hDn hSn
          obtain ⟨f_20, ef_20⟩ : ∃ g : Nat → Int32, g = upd eXa (x_18 : Int32).toNatClampNeg x_19 := ⟨_, rfl⟩
          rw [← ef_20] at hP hD
          have g_f20 : rg 0 65535 f_20 := rg_upd ef_20 g_eXa (by omega)
          obtain ⟨x_21, ex_21⟩ : ∃ y : Int32, y = k + 1 := ⟨_, rfl⟩
          have tx_21 : x_21.toInt = k.toInt + 1 := v_add ex_21 (by show -2147483648 ≤ k.toInt + 1; omega) (by show k.toInt + 1 < 2147483648; omega)
          refine lv_iinc (v := x_21) (lv' := [(4, .int x_21), (3, .int x_6), (0, .ref oM), (1, .ref rw), (2, .int n)]) hx hb dX12_become_98 hl (k := 0) rfl (by rw [ex_21]; rfl) (by decide) rfl (fun ls hl => ?_)
          refine lv_goto (tgt := 67) hx hb dX12_become_101 (by decide) ?_
          exact ih_67 x_21 f_20 _ _ _ (ms_lt hm_67 (by show ((300 - x_21.toInt : Int)) < 300 - k.toInt; omega) (by show (0 : Int) < 300 - k.toInt; omega)) (by show 0 ≤ x_21.toInt ∧ x_21.toInt ≤ 300; omega) (g_f20) (by show x_21.toInt ≤ (eS 0).toInt; omega) (CPB_s hcb (by omega) (by omega) (ex_19.trans (hcb.2 _ (by have c9 := v_clamp (x := k) (by omega); omega))) ef_20 (by omega) (by omega)) hP hD hS (lv_sub hl [0, 1, 2, 3, 4] rfl)
    exact LOOP_67 _ 0 eX _ _ _ (ms_s _) (by decide) (g_eX) (by show 0 ≤ (eS 0).toInt; omega) (CPB_0 (by decide)) hP hD hS (lv_sub hl [0, 1, 2, 3, 4] rfl)
  · have tc_1 : zp.toInt = 20 := v_eq c_1
    refine lv_aload_n hx hb dX12_become_9 rfl (lv_at hl 0 rfl) ?_
    refine lv_aload_n hx hb dX12_become_10 rfl (lv_at hl 0 rfl) ?_
    refine va_get (D := (dC, dI)) (ci := 12) (v := .int zf) (C := RX12) (T := TX12) (N := 40) hx hb hts in_X12 hown hK hP 0 rfl rfl 5 (by decide) (hts (.fieldLink RX12 145 "TextMenderModel" "firstPast" "I") (List.mem_of_getElem? (i := 2) rfl)) (fun _ h9 => h9) rfl dX12_become_11 ?_
    refine lv_iconst (v := 1) hx hb dX12_become_14 (by decide) ?_
    refine lv_iadd hx hb dX12_become_15 ?_
    refine lv_topi (fun x_22 ex_22 => ?_)
    have tx_22 : x_22.toInt = zf.toInt + 1 := v_add ex_22 (by show -2147483648 ≤ zf.toInt + 1; omega) (by show zf.toInt + 1 < 2147483648; omega)
    refine lv_bipush (v := 20) hx hb dX12_become_16 (by decide) ?_
    refine lv_irem hx hb dX12_become_18 (by decide) ?_
    refine lv_topi (fun x_23 ex_23 => ?_)
    have tx_23 : x_23.toInt = x_22.toInt % 20 := v_rem ex_23 (by omega) (by decide)
    refine va_put (D := (dC, dI)) (ci := 12) (v := .int x_23) (ty := .int) (C := RX12) (T := TX12) (N := 40) hx hb hts in_X12 tyX12 tyX12_ok nmX12 hown hK hP hD hS 0 rfl rfl 5 (by decide) (hts (.fieldLink RX12 145 "TextMenderModel" "firstPast" "I") (List.mem_of_getElem? (i := 2) rfl)) (fun _ h9 => h9) rfl (by decide +kernel) rfl rfl (Nat.le_of_ble_eq_true rfl) dX12_become_19 (fun H locs hPn hDn hSn => ?_)
    clear hP hD hS
    have hP : va_P (dC, dI) vwCl [(oM, .inr (12, [.ref mT, .int zt, .ref mS, .ref mX, .int zp, .int x_23, .ref mL, .ref mB, .ref mD, .ref m1, .ref m2, .int zh, .ref mR, .int zr, .ref x1, .ref x2, .ref x3, .int zc, .ref mH, .int zy, .int za, .int zb, .int zs, .int zq, .int zw, .int ze, .ref mY, .int zn, .ref mE, .int zm, .int zl, .ref mW, .int zk, .ref mO, .int zd, .ref y1, .ref y2, .ref y3, .ref y4, .ref mZ])), (mS, .inl (cI, 21, .inl eS)), (mX, .inl (cI, 6300, .inl eX)), (rw, .inl (cI, cw, .inl fr))] H := hPn
    have hD : va_D A [(oM, .inr (12, [.ref mT, .int zt, .ref mS, .ref mX, .int zp, .int x_23, .ref mL, .ref mB, .ref mD, .ref m1, .ref m2, .int zh, .ref mR, .int zr, .ref x1, .ref x2, .ref x3, .int zc, .ref mH, .int zy, .int za, .int zb, .int zs, .int zq, .int zw, .int ze, .ref mY, .int zn, .ref mE, .int zm, .int zl, .ref mW, .int zk, .ref mO, .int zd, .ref y1, .ref y2, .ref y3, .ref y4, .ref mZ])), (mS, .inl (cI, 21, .inl eS)), (mX, .inl (cI, 6300, .inl eX)), (rw, .inl (cI, cw, .inl fr))] := hDn
    have hS := hSn
    clear hPn hDn hSn
    refine lv_goto (tgt := 35) hx hb dX12_become_22 (by decide) ?_
    refine lv_iconst (v := 1) hx hb dX12_become_35 (by decide) ?_
    refine lv_aload_n hx hb dX12_become_36 rfl (lv_at hl 0 rfl) ?_
    refine va_get (D := (dC, dI)) (ci := 12) (v := .int x_23) (C := RX12) (T := TX12) (N := 40) hx hb hts in_X12 hown hK hP 0 rfl rfl 5 (by decide) (hts (.fieldLink RX12 145 "TextMenderModel" "firstPast" "I") (List.mem_of_getElem? (i := 2) rfl)) (fun _ h9 => h9) rfl dX12_become_37 ?_
    refine lv_aload_n hx hb dX12_become_40 rfl (lv_at hl 0 rfl) ?_
    refine va_get (D := (dC, dI)) (ci := 12) (v := .int zp) (C := RX12) (T := TX12) (N := 40) hx hb hts in_X12 hown hK hP 0 rfl rfl 4 (by decide) (hts (.fieldLink RX12 142 "TextMenderModel" "past" "I") (List.mem_of_getElem? (i := 1) rfl)) (fun _ h9 => h9) rfl dX12_become_41 ?_
    refine lv_iadd hx hb dX12_become_44 ?_
    refine lv_topi (fun x_24 ex_24 => ?_)
    have tx_24 : x_24.toInt = x_23.toInt + zp.toInt := v_add ex_24 (by show -2147483648 ≤ x_23.toInt + zp.toInt; omega) (by show x_23.toInt + zp.toInt < 2147483648; omega)
    refine lv_iconst (v := 1) hx hb dX12_become_45 (by decide) ?_
    refine lv_isub hx hb dX12_become_46 ?_
    refine lv_topi (fun x_25 ex_25 => ?_)
    have tx_25 : x_25.toInt = x_24.toInt - 1 := v_sub ex_25 (by show -2147483648 ≤ x_24.toInt - 1; omega) (by show x_24.toInt - 1 < 2147483648; omega)
    refine lv_bipush (v := 20) hx hb dX12_become_47 (by decide) ?_
    refine lv_irem hx hb dX12_become_49 (by decide) ?_
    refine lv_topi (fun x_26 ex_26 => ?_)
    have tx_26 : x_26.toInt = x_25.toInt % 20 := v_rem ex_26 (by omega) (by decide)
    refine lv_iadd hx hb dX12_become_50 ?_
    refine lv_topi (fun x_27 ex_27 => ?_)
    have tx_27 : x_27.toInt = 1 + x_26.toInt := v_add ex_27 (by show -2147483648 ≤ 1 + x_26.toInt; omega) (by show 1 + x_26.toInt < 2147483648; omega)
    refine lv_istore_n (lv' := [(3, .int x_27), (0, .ref oM), (1, .ref rw), (2, .int n)]) hx hb dX12_become_51 rfl hl (by decide) rfl (fun ls hl => ?_)
    refine lv_aload_n hx hb dX12_become_52 rfl (lv_at hl 1 rfl) ?_
    refine va_get (D := (dC, dI)) (ci := 12) (v := .ref mS) (C := RX12) (T := TX12) (N := 40) hx hb hts in_X12 hown hK hP 0 rfl rfl 2 (by decide) (hts (.fieldLink RX12 13 "TextMenderModel" "sizes" "[I") (List.mem_of_getElem? (i := 3) rfl)) (fun _ h9 => h9) rfl dX12_become_53 ?_
    refine lv_iload_n hx hb dX12_become_56 rfl (lv_at hl 0 rfl) ?_
    refine lv_aload_n hx hb dX12_become_57 rfl (lv_at hl 1 rfl) ?_
    refine va_get (D := (dC, dI)) (ci := 12) (v := .ref mS) (C := RX12) (T := TX12) (N := 40) hx hb hts in_X12 hown hK hP 0 rfl rfl 2 (by decide) (hts (.fieldLink RX12 13 "TextMenderModel" "sizes" "[I") (List.mem_of_getElem? (i := 3) rfl)) (fun _ h9 => h9) rfl dX12_become_58 ?_
    refine lv_iconst (v := 0) hx hb dX12_become_61 (by decide) ?_
    refine va_iald hx hb hK hP 1 0 rfl rfl (by unfold vp_in; decide) dX12_become_62 ?_
    refine lv_topi (fun x_28 ex_28 => ?_)
    have tx_28 : 0 ≤ x_28.toInt ∧ x_28.toInt ≤ 300 := rg_at g_eS ex_28
    refine va_iast hx hb hK hP hD hS 1 0 rfl rfl (v_in (by omega)) dX12_become_63 (fun H locs hPn hDn hSn => ?_)
    clear hP hD hS
    have hP : va_P (dC, dI) vwCl [(oM, .inr (12, [.ref mT, .int zt, .ref mS, .ref mX, .int zp, .int x_23, .ref mL, .ref mB, .ref mD, .ref m1, .ref m2, .int zh, .ref mR, .int zr, .ref x1, .ref x2, .ref x3, .int zc, .ref mH, .int zy, .int za, .int zb, .int zs, .int zq, .int zw, .int ze, .ref mY, .int zn, .ref mE, .int zm, .int zl, .ref mW, .int zk, .ref mO, .int zd, .ref y1, .ref y2, .ref y3, .ref y4, .ref mZ])), (mS, .inl (cI, 21, .inl (upd eS (x_27 : Int32).toNatClampNeg x_28))), (mX, .inl (cI, 6300, .inl eX)), (rw, .inl (cI, cw, .inl fr))] H := hPn
    have hD : va_D A [(oM, .inr (12, [.ref mT, .int zt, .ref mS, .ref mX, .int zp, .int x_23, .ref mL, .ref mB, .ref mD, .ref m1, .ref m2, .int zh, .ref mR, .int zr, .ref x1, .ref x2, .ref x3, .int zc, .ref mH, .int zy, .int za, .int zb, .int zs, .int zq, .int zw, .int ze, .ref mY, .int zn, .ref mE, .int zm, .int zl, .ref mW, .int zk, .ref mO, .int zd, .ref y1, .ref y2, .ref y3, .ref y4, .ref mZ])), (mS, .inl (cI, 21, .inl (upd eS (x_27 : Int32).toNatClampNeg x_28))), (mX, .inl (cI, 6300, .inl eX)), (rw, .inl (cI, cw, .inl fr))] := hDn
    have hS := hSn
    clear hPn hDn hSn
    obtain ⟨f_29, ef_29⟩ : ∃ g : Nat → Int32, g = upd eS (x_27 : Int32).toNatClampNeg x_28 := ⟨_, rfl⟩
    rw [← ef_29] at hP hD
    have g_f29 : rg 0 300 f_29 := rg_upd ef_29 g_eS (by omega)
    refine lv_iconst (v := 0) hx hb dX12_become_64 (by decide) ?_
    refine lv_istore (lv' := [(4, .int 0), (3, .int x_27), (0, .ref oM), (1, .ref rw), (2, .int n)]) hx hb dX12_become_65 hl (by decide) rfl (fun ls hl => ?_)
    have LOOP_67 : ∀ (k_67 : Nat) (k : Int32) (eXa : Nat → Int32) (H : Heap) (locs : List Loc) (ls : Array Slot), MSd (300 - k.toInt : Int) k_67 → (0 ≤ k.toInt ∧ k.toInt ≤ 300) → (rg 0 65535 eXa) → (k.toInt ≤ (eS 0).toInt) → (CPB (300 * x_27.toInt) k.toInt eX eXa eX) → va_P (dC, dI) vwCl [(oM, .inr (12, [.ref mT, .int zt, .ref mS, .ref mX, .int zp, .int x_23, .ref mL, .ref mB, .ref mD, .ref m1, .ref m2, .int zh, .ref mR, .int zr, .ref x1, .ref x2, .ref x3, .int zc, .ref mH, .int zy, .int za, .int zb, .int zs, .int zq, .int zw, .int ze, .ref mY, .int zn, .ref mE, .int zm, .int zl, .ref mW, .int zk, .ref mO, .int zd, .ref y1, .ref y2, .ref y3, .ref y4, .ref mZ])), (mS, .inl (cI, 21, .inl f_29)), (mX, .inl (cI, 6300, .inl eXa)), (rw, .inl (cI, cw, .inl fr))] H → va_D A [(oM, .inr (12, [.ref mT, .int zt, .ref mS, .ref mX, .int zp, .int x_23, .ref mL, .ref mB, .ref mD, .ref m1, .ref m2, .int zh, .ref mR, .int zr, .ref x1, .ref x2, .ref x3, .int zc, .ref mH, .int zy, .int za, .int zb, .int zs, .int zq, .int zw, .int ze, .ref mY, .int zn, .ref mE, .int zm, .int zl, .ref mW, .int zk, .ref mO, .int zd, .ref y1, .ref y2, .ref y3, .ref y4, .ref mZ])), (mS, .inl (cI, 21, .inl f_29)), (mX, .inl (cI, 6300, .inl eXa)), (rw, .inl (cI, cw, .inl fr))] → va_S A s.heap H locs → lv_has ls 5 [(4, .int k), (3, .int x_27), (0, .ref oM), (1, .ref rw), (2, .int n)] → W p l e (headSpec wsX12_become ({ frames := 0, cells := 0, slots := 0, locals := 0 } : Room)).room s m ([.ref oM, .ref rw, .int n] : List Value).toArray below meth c H locs 0 0 (MQ below QQ ([.ref oM, .ref rw, .int n] : List Value).toArray s 0 0 A) (F0 m 67 ls []) := by
      clear hP hD hS hl
      intro k_67
      induction k_67 with
      | zero =>
        intro k eXa H locs ls hm_67 g_k g_eXa hks hcb hP hD hS hl
        exact ms_0 hm_67
      | succ k_67 ih_67 =>
        intro k eXa H locs ls hm_67 g_k g_eXa hks hcb hP hD hS hl
        refine lv_iload hx hb dX12_become_67 (lv_at hl 0 rfl) ?_
        refine lv_aload_n hx hb dX12_become_69 rfl (lv_at hl 2 rfl) ?_
        refine va_get (D := (dC, dI)) (ci := 12) (v := .ref mS) (C := RX12) (T := TX12) (N := 40) hx hb hts in_X12 hown hK hP 0 rfl rfl 2 (by decide) (hts (.fieldLink RX12 13 "TextMenderModel" "sizes" "[I") (List.mem_of_getElem? (i := 3) rfl)) (fun _ h9 => h9) rfl dX12_become_70 ?_
        refine lv_iconst (v := 0) hx hb dX12_become_73 (by decide) ?_
        refine va_iald hx hb hK hP 1 0 rfl rfl (by unfold vp_in; decide) dX12_become_74 ?_
        refine lv_topi (fun x_30 ex_30 => ?_)
        have tx_30 : 0 ≤ x_30.toInt ∧ x_30.toInt ≤ 300 := rg_at g_f29 ex_30
        have hs_x_30 : x_30 = eS 0 := up0 ef_29 (by omega) ex_30
        have hi_x_30 : x_30.toInt = (eS 0).toInt := v_eq hs_x_30
        refine lv_icmp_ge (tgt := 104) hx hb dX12_become_75 (by decide) (fun c_31 => ?_) (fun c_31 => ?_)
        · have tc_31 : x_30.toInt ≤ k.toInt := v_le c_31
          refine lv_aload_n hx hb dX12_become_104 rfl (lv_at hl 2 rfl) ?_
          refine va_get (D := (dC, dI)) (ci := 12) (v := .ref mS) (C := RX12) (T := TX12) (N := 40) hx hb hts in_X12 hown hK hP 0 rfl rfl 2 (by decide) (hts (.fieldLink RX12 13 "TextMenderModel" "sizes" "[I") (List.mem_of_getElem? (i := 3) rfl)) (fun _ h9 => h9) rfl dX12_become_105 ?_
          refine lv_iconst (v := 0) hx hb dX12_become_108 (by decide) ?_
          refine lv_iload_n hx hb dX12_become_109 rfl (lv_at hl 4 rfl) ?_
          refine va_iast hx hb hK hP hD hS 1 0 rfl rfl (by unfold vp_in; decide) dX12_become_110 (fun H locs hPn hDn hSn => ?_)
          clear hP hD hS
          have hP : va_P (dC, dI) vwCl [(oM, .inr (12, [.ref mT, .int zt, .ref mS, .ref mX, .int zp, .int x_23, .ref mL, .ref mB, .ref mD, .ref m1, .ref m2, .int zh, .ref mR, .int zr, .ref x1, .ref x2, .ref x3, .int zc, .ref mH, .int zy, .int za, .int zb, .int zs, .int zq, .int zw, .int ze, .ref mY, .int zn, .ref mE, .int zm, .int zl, .ref mW, .int zk, .ref mO, .int zd, .ref y1, .ref y2, .ref y3, .ref y4, .ref mZ])), (mS, .inl (cI, 21, .inl (upd f_29 (0 : Int32).toNatClampNeg n))), (mX, .inl (cI, 6300, .inl eXa)), (rw, .inl (cI, cw, .inl fr))] H := hPn
          have hD : va_D A [(oM, .inr (12, [.ref mT, .int zt, .ref mS, .ref mX, .int zp, .int x_23, .ref mL, .ref mB, .ref mD, .ref m1, .ref m2, .int zh, .ref mR, .int zr, .ref x1, .ref x2, .ref x3, .int zc, .ref mH, .int zy, .int za, .int zb, .int zs, .int zq, .int zw, .int ze, .ref mY, .int zn, .ref mE, .int zm, .int zl, .ref mW, .int zk, .ref mO, .int zd, .ref y1, .ref y2, .ref y3, .ref y4, .ref mZ])), (mS, .inl (cI, 21, .inl (upd f_29 (0 : Int32).toNatClampNeg n))), (mX, .inl (cI, 6300, .inl eXa)), (rw, .inl (cI, cw, .inl fr))] := hDn
          have hS := hSn
          clear hPn hDn hSn
          obtain ⟨f_32, ef_32⟩ : ∃ g : Nat → Int32, g = upd f_29 (0 : Int32).toNatClampNeg n := ⟨_, rfl⟩
          rw [← ef_32] at hP hD
          have g_f32 : rg 0 300 f_32 := rg_upd ef_32 g_f29 (by omega)
          refine lv_iconst (v := 0) hx hb dX12_become_111 (by decide) ?_
          refine lv_istore (lv' := [(4, .int 0), (3, .int x_27), (0, .ref oM), (1, .ref rw), (2, .int n)]) hx hb dX12_become_112 hl (by decide) rfl (fun ls hl => ?_)
          have LOOP_114 : ∀ (k_114 : Nat) (k2 : Int32) (eXb : Nat → Int32) (H : Heap) (locs : List Loc) (ls : Array Slot), MSd (300 - k2.toInt : Int) k_114 → (0 ≤ k2.toInt ∧ k2.toInt ≤ 300) → (rg 0 65535 eXb) → (k2.toInt ≤ n.toInt) → (CPB 0 k2.toInt eXa eXb fr) → va_P (dC, dI) vwCl [(oM, .inr (12, [.ref mT, .int zt, .ref mS, .ref mX, .int zp, .int x_23, .ref mL, .ref mB, .ref mD, .ref m1, .ref m2, .int zh, .ref mR, .int zr, .ref x1, .ref x2, .ref x3, .int zc, .ref mH, .int zy, .int za, .int zb, .int zs, .int zq, .int zw, .int ze, .ref mY, .int zn, .ref mE, .int zm, .int zl, .ref mW, .int zk, .ref mO, .int zd, .ref y1, .ref y2, .ref y3, .ref y4, .ref mZ])), (mS, .inl (cI, 21, .inl f_32)), (mX, .inl (cI, 6300, .inl eXb)), (rw, .inl (cI, cw, .inl fr))] H → va_D A [(oM, .inr (12, [.ref mT, .int zt, .ref mS, .ref mX, .int zp, .int x_23, .ref mL, .ref mB, .ref mD, .ref m1, .ref m2, .int zh, .ref mR, .int zr, .ref x1, .ref x2, .ref x3, .int zc, .ref mH, .int zy, .int za, .int zb, .int zs, .int zq, .int zw, .int ze, .ref mY, .int zn, .ref mE, .int zm, .int zl, .ref mW, .int zk, .ref mO, .int zd, .ref y1, .ref y2, .ref y3, .ref y4, .ref mZ])), (mS, .inl (cI, 21, .inl f_32)), (mX, .inl (cI, 6300, .inl eXb)), (rw, .inl (cI, cw, .inl fr))] → va_S A s.heap H locs → lv_has ls 5 [(4, .int k2), (3, .int x_27), (0, .ref oM), (1, .ref rw), (2, .int n)] → W p l e (headSpec wsX12_become ({ frames := 0, cells := 0, slots := 0, locals := 0 } : Room)).room s m ([.ref oM, .ref rw, .int n] : List Value).toArray below meth c H locs 0 0 (MQ below QQ ([.ref oM, .ref rw, .int n] : List Value).toArray s 0 0 A) (F0 m 114 ls []) := by
            clear hP hD hS hl
            intro k_114
            induction k_114 with
            | zero =>
              intro k2 eXb H locs ls hm_114 g_k2 g_eXb hkn hcc hP hD hS hl
              exact ms_0 hm_114
            | succ k_114 ih_114 =>
              intro k2 eXb H locs ls hm_114 g_k2 g_eXb hkn hcc hP hD hS hl
              refine lv_iload hx hb dX12_become_114 (lv_at hl 0 rfl) ?_
              refine lv_iload_n hx hb dX12_become_116 rfl (lv_at hl 4 rfl) ?_
              refine lv_icmp_ge (tgt := 137) hx hb dX12_become_117 (by decide) (fun c_33 => ?_) (fun c_33 => ?_)
              · have tc_33 : n.toInt ≤ k2.toInt := v_le c_33
                refine lv_aload_n hx hb dX12_become_137 rfl (lv_at hl 2 rfl) ?_
                refine lv_dup hx hb dX12_become_138 rfl ?_
                refine va_get (D := (dC, dI)) (ci := 12) (v := .int zs) (C := RX12) (T := TX12) (N := 40) hx hb hts in_X12 hown hK hP 0 rfl rfl 22 (by decide) (hts (.fieldLink RX12 148 "TextMenderModel" "state" "I") (List.mem_of_getElem? (i := 5) rfl)) (fun _ h9 => h9) rfl dX12_become_139 ?_
                refine lv_iconst (v := 1) hx hb dX12_become_142 (by decide) ?_
                refine lv_iadd hx hb dX12_become_143 ?_
                refine lv_topi (fun x_34 ex_34 => ?_)
                have tx_34 : x_34.toInt = zs.toInt + 1 := v_add ex_34 (by show -2147483648 ≤ zs.toInt + 1; omega) (by show zs.toInt + 1 < 2147483648; omega)
                refine va_put (D := (dC, dI)) (ci := 12) (v := .int x_34) (ty := .int) (C := RX12) (T := TX12) (N := 40) hx hb hts in_X12 tyX12 tyX12_ok nmX12 hown hK hP hD hS 0 rfl rfl 22 (by decide) (hts (.fieldLink RX12 148 "TextMenderModel" "state" "I") (List.mem_of_getElem? (i := 5) rfl)) (fun _ h9 => h9) rfl (by decide +kernel) rfl rfl (Nat.le_of_ble_eq_true rfl) dX12_become_144 (fun H locs hPn hDn hSn => ?_)
                clear hP hD hS
                have hP : va_P (dC, dI) vwCl [(oM, .inr (12, [.ref mT, .int zt, .ref mS, .ref mX, .int zp, .int x_23, .ref mL, .ref mB, .ref mD, .ref m1, .ref m2, .int zh, .ref mR, .int zr, .ref x1, .ref x2, .ref x3, .int zc, .ref mH, .int zy, .int za, .int zb, .int x_34, .int zq, .int zw, .int ze, .ref mY, .int zn, .ref mE, .int zm, .int zl, .ref mW, .int zk, .ref mO, .int zd, .ref y1, .ref y2, .ref y3, .ref y4, .ref mZ])), (mS, .inl (cI, 21, .inl f_32)), (mX, .inl (cI, 6300, .inl eXb)), (rw, .inl (cI, cw, .inl fr))] H := hPn
                have hD : va_D A [(oM, .inr (12, [.ref mT, .int zt, .ref mS, .ref mX, .int zp, .int x_23, .ref mL, .ref mB, .ref mD, .ref m1, .ref m2, .int zh, .ref mR, .int zr, .ref x1, .ref x2, .ref x3, .int zc, .ref mH, .int zy, .int za, .int zb, .int x_34, .int zq, .int zw, .int ze, .ref mY, .int zn, .ref mE, .int zm, .int zl, .ref mW, .int zk, .ref mO, .int zd, .ref y1, .ref y2, .ref y3, .ref y4, .ref mZ])), (mS, .inl (cI, 21, .inl f_32)), (mX, .inl (cI, 6300, .inl eXb)), (rw, .inl (cI, cw, .inl fr))] := hDn
                have hS := hSn
                clear hPn hDn hSn
                have hP9 := hP.sub (ws' := [(oM, .inr (12, [.ref mT, .int zt, .ref mS, .ref mX, .int zp, .int x_23, .ref mL, .ref mB, .ref mD, .ref m1, .ref m2, .int zh, .ref mR, .int zr, .ref x1, .ref x2, .ref x3, .int zc, .ref mH, .int zy, .int za, .int zb, .int x_34, .int zq, .int zw, .int ze, .ref mY, .int zn, .ref mE, .int zm, .int zl, .ref mW, .int zk, .ref mO, .int zd, .ref y1, .ref y2, .ref y3, .ref y4, .ref mZ])), (mS, .inl (cI, 21, .inl f_32)), (mX, .inl (cI, 6300, .inl eXb)), (rw, .inl (cI, cw, .inl fr))]) [0, 1, 2, 3] rfl
                have hD9 := hD.sub (ws' := [(oM, .inr (12, [.ref mT, .int zt, .ref mS, .ref mX, .int zp, .int x_23, .ref mL, .ref mB, .ref mD, .ref m1, .ref m2, .int zh, .ref mR, .int zr, .ref x1, .ref x2, .ref x3, .int zc, .ref mH, .int zy, .int za, .int zb, .int x_34, .int zq, .int zw, .int ze, .ref mY, .int zn, .ref mE, .int zm, .int zl, .ref mW, .int zk, .ref mO, .int zd, .ref y1, .ref y2, .ref y3, .ref y4, .ref mZ])), (mS, .inl (cI, 21, .inl f_32)), (mX, .inl (cI, 6300, .inl eXb)), (rw, .inl (cI, cw, .inl fr))]) [0, 1, 2, 3] (by decide +kernel) rfl
                rw [hQQ]
                exact W.vret hx hb hr (fun t ht hW => ⟨⟨(), rfl, trivial, ⟨zp, x_23, x_34, f_32, eXb, by rw [ht]; exact hP9, hD9, g_zp, by omega, by omega, g_f32, g_eXb, by show x_34.toInt = zs.toInt + 1; omega, bR_of (t := x_27) (by omega) (by omega) (by omega) ex_28 ef_29 ef_32 hcb (by omega) hcc (by omega)⟩⟩, hS.F ht⟩) hS.2.2 dX12_become_147
              · have tc_33 : k2.toInt < n.toInt := v_nle c_33
                refine lv_aload_n hx hb dX12_become_120 rfl (lv_at hl 2 rfl) ?_
                refine va_get (D := (dC, dI)) (ci := 12) (v := .ref mX) (C := RX12) (T := TX12) (N := 40) hx hb hts in_X12 hown hK hP 0 rfl rfl 3 (by decide) (hts (.fieldLink RX12 16 "TextMenderModel" "texts" "[I") (List.mem_of_getElem? (i := 4) rfl)) (fun _ h9 => h9) rfl dX12_become_121 ?_
                refine lv_iload hx hb dX12_become_124 (lv_at hl 0 rfl) ?_
                refine lv_aload_n hx hb dX12_become_126 rfl (lv_at hl 3 rfl) ?_
                refine lv_iload hx hb dX12_become_127 (lv_at hl 0 rfl) ?_
                refine va_iald hx hb hK hP 3 0 rfl rfl (v_in (by omega)) dX12_become_129 ?_
                refine lv_topi (fun x_35 ex_35 => ?_)
                have tp_x_35 := prg_at hrow ex_35 (by omega) (by omega)
                refine va_iast hx hb hK hP hD hS 2 0 rfl rfl (v_in (by omega)) dX12_become_130 (fun H locs hPn hDn hSn => ?_)
                clear hP hD hS
                have hP : va_P (dC, dI) vwCl [(oM, .inr (12, [.ref mT, .int zt, .ref mS, .ref mX, .int zp, .int x_23, .ref mL, .ref mB, .ref mD, .ref m1, .ref m2, .int zh, .ref mR, .int zr, .ref x1, .ref x2, .ref x3, .int zc, .ref mH, .int zy, .int za, .int zb, .int zs, .int zq, .int zw, .int ze, .ref mY, .int zn, .ref mE, .int zm, .int zl, .ref mW, .int zk, .ref mO, .int zd, .ref y1, .ref y2, .ref y3, .ref y4, .ref mZ])), (mS, .inl (cI, 21, .inl f_32)), (mX, .inl (cI, 6300, .inl (upd eXb (k2 : Int32).toNatClampNeg x_35))), (rw, .inl (cI, cw, .inl fr))] H := hPn
                have hD : va_D A [(oM, .inr (12, [.ref mT, .int zt, .ref mS, .ref mX, .int zp, .int x_23, .ref mL, .ref mB, .ref mD, .ref m1, .ref m2, .int zh, .ref mR, .int zr, .ref x1, .ref x2, .ref x3, .int zc, .ref mH, .int zy, .int za, .int zb, .int zs, .int zq, .int zw, .int ze, .ref mY, .int zn, .ref mE, .int zm, .int zl, .ref mW, .int zk, .ref mO, .int zd, .ref y1, .ref y2, .ref y3, .ref y4, .ref mZ])), (mS, .inl (cI, 21, .inl f_32)), (mX, .inl (cI, 6300, .inl (upd eXb (k2 : Int32).toNatClampNeg x_35))), (rw, .inl (cI, cw, .inl fr))] := hDn
                have hS := hSn
                clear hPn hDn hSn
                obtain ⟨f_36, ef_36⟩ : ∃ g : Nat → Int32, g = upd eXb (k2 : Int32).toNatClampNeg x_35 := ⟨_, rfl⟩
                rw [← ef_36] at hP hD
                have g_f36 : rg 0 65535 f_36 := rg_upd ef_36 g_eXb (by omega)
                obtain ⟨x_37, ex_37⟩ : ∃ y : Int32, y = k2 + 1 := ⟨_, rfl⟩
                have tx_37 : x_37.toInt = k2.toInt + 1 := v_add ex_37 (by show -2147483648 ≤ k2.toInt + 1; omega) (by show k2.toInt + 1 < 2147483648; omega)
                refine lv_iinc (v := x_37) (lv' := [(4, .int x_37), (3, .int x_27), (0, .ref oM), (1, .ref rw), (2, .int n)]) hx hb dX12_become_131 hl (k := 0) rfl (by rw [ex_37]; rfl) (by decide) rfl (fun ls hl => ?_)
                refine lv_goto (tgt := 114) hx hb dX12_become_134 (by decide) ?_
                exact ih_114 x_37 f_36 _ _ _ (ms_lt hm_114 (by show ((300 - x_37.toInt : Int)) < 300 - k2.toInt; omega) (by show (0 : Int) < 300 - k2.toInt; omega)) (by show 0 ≤ x_37.toInt ∧ x_37.toInt ≤ 300; omega) (g_f36) (by show x_37.toInt ≤ n.toInt; omega) (CPB_s hcc (by omega) (by omega) ex_35 ef_36 (by omega) (by omega)) hP hD hS (lv_sub hl [0, 1, 2, 3, 4] rfl)
          exact LOOP_114 _ 0 eXa _ _ _ (ms_s _) (by decide) (g_eXa) (by show 0 ≤ n.toInt; omega) (CPB_0 (by decide)) hP hD hS (lv_sub hl [0, 1, 2, 3, 4] rfl)
        · have tc_31 : k.toInt < x_30.toInt := v_nle c_31
          refine lv_aload_n hx hb dX12_become_78 rfl (lv_at hl 2 rfl) ?_
          refine va_get (D := (dC, dI)) (ci := 12) (v := .ref mX) (C := RX12) (T := TX12) (N := 40) hx hb hts in_X12 hown hK hP 0 rfl rfl 3 (by decide) (hts (.fieldLink RX12 16 "TextMenderModel" "texts" "[I") (List.mem_of_getElem? (i := 4) rfl)) (fun _ h9 => h9) rfl dX12_become_79 ?_
          refine lv_sipush (v := 300) hx hb dX12_become_82 (by decide) ?_
          refine lv_iload_n hx hb dX12_become_85 rfl (lv_at hl 1 rfl) ?_
          refine lv_imul hx hb dX12_become_86 ?_
          refine lv_topi (fun x_38 ex_38 => ?_)
          have tx_38 : x_38.toInt = 300 * x_27.toInt := v_mul ex_38 (by show -2147483648 ≤ 300 * x_27.toInt; omega) (by show 300 * x_27.toInt < 2147483648; omega)
          refine lv_iload hx hb dX12_become_87 (lv_at hl 0 rfl) ?_
          refine lv_iadd hx hb dX12_become_89 ?_
          refine lv_topi (fun x_39 ex_39 => ?_)
          have tx_39 : x_39.toInt = x_38.toInt + k.toInt := v_add ex_39 (by show -2147483648 ≤ x_38.toInt + k.toInt; omega) (by show x_38.toInt + k.toInt < 2147483648; omega)
          refine lv_aload_n hx hb dX12_become_90 rfl (lv_at hl 2 rfl) ?_
          refine va_get (D := (dC, dI)) (ci := 12) (v := .ref mX) (C := RX12) (T := TX12) (N := 40) hx hb hts in_X12 hown hK hP 0 rfl rfl 3 (by decide) (hts (.fieldLink RX12 16 "TextMenderModel" "texts" "[I") (List.mem_of_getElem? (i := 4) rfl)) (fun _ h9 => h9) rfl dX12_become_91 ?_
          refine lv_iload hx hb dX12_become_94 (lv_at hl 0 rfl) ?_
          refine va_iald hx hb hK hP 2 0 rfl rfl (v_in (by omega)) dX12_become_96 ?_
          refine lv_topi (fun x_40 ex_40 => ?_)
          have tx_40 : 0 ≤ x_40.toInt ∧ x_40.toInt ≤ 65535 := rg_at g_eXa ex_40
          refine va_iast hx hb hK hP hD hS 2 0 rfl rfl (v_in (by omega)) dX12_become_97 (fun H locs hPn hDn hSn => ?_)
          clear hP hD hS
          have hP : va_P (dC, dI) vwCl [(oM, .inr (12, [.ref mT, .int zt, .ref mS, .ref mX, .int zp, .int x_23, .ref mL, .ref mB, .ref mD, .ref m1, .ref m2, .int zh, .ref mR, .int zr, .ref x1, .ref x2, .ref x3, .int zc, .ref mH, .int zy, .int za, .int zb, .int zs, .int zq, .int zw, .int ze, .ref mY, .int zn, .ref mE, .int zm, .int zl, .ref mW, .int zk, .ref mO, .int zd, .ref y1, .ref y2, .ref y3, .ref y4, .ref mZ])), (mS, .inl (cI, 21, .inl f_29)), (mX, .inl (cI, 6300, .inl (upd eXa (x_39 : Int32).toNatClampNeg x_40))), (rw, .inl (cI, cw, .inl fr))] H := hPn
          have hD : va_D A [(oM, .inr (12, [.ref mT, .int zt, .ref mS, .ref mX, .int zp, .int x_23, .ref mL, .ref mB, .ref mD, .ref m1, .ref m2, .int zh, .ref mR, .int zr, .ref x1, .ref x2, .ref x3, .int zc, .ref mH, .int zy, .int za, .int zb, .int zs, .int zq, .int zw, .int ze, .ref mY, .int zn, .ref mE, .int zm, .int zl, .ref mW, .int zk, .ref mO, .int zd, .ref y1, .ref y2, .ref y3, .ref y4, .ref mZ])), (mS, .inl (cI, 21, .inl f_29)), (mX, .inl (cI, 6300, .inl (upd eXa (x_39 : Int32).toNatClampNeg x_40))), (rw, .inl (cI, cw, .inl fr))] := hDn
          have hS := hSn
          clear hPn hDn hSn
          obtain ⟨f_41, ef_41⟩ : ∃ g : Nat → Int32, g = upd eXa (x_39 : Int32).toNatClampNeg x_40 := ⟨_, rfl⟩
          rw [← ef_41] at hP hD
          have g_f41 : rg 0 65535 f_41 := rg_upd ef_41 g_eXa (by omega)
          obtain ⟨x_42, ex_42⟩ : ∃ y : Int32, y = k + 1 := ⟨_, rfl⟩
          have tx_42 : x_42.toInt = k.toInt + 1 := v_add ex_42 (by show -2147483648 ≤ k.toInt + 1; omega) (by show k.toInt + 1 < 2147483648; omega)
          refine lv_iinc (v := x_42) (lv' := [(4, .int x_42), (3, .int x_27), (0, .ref oM), (1, .ref rw), (2, .int n)]) hx hb dX12_become_98 hl (k := 0) rfl (by rw [ex_42]; rfl) (by decide) rfl (fun ls hl => ?_)
          refine lv_goto (tgt := 67) hx hb dX12_become_101 (by decide) ?_
          exact ih_67 x_42 f_41 _ _ _ (ms_lt hm_67 (by show ((300 - x_42.toInt : Int)) < 300 - k.toInt; omega) (by show (0 : Int) < 300 - k.toInt; omega)) (by show 0 ≤ x_42.toInt ∧ x_42.toInt ≤ 300; omega) (g_f41) (by show x_42.toInt ≤ (eS 0).toInt; omega) (CPB_s hcb (by omega) (by omega) (ex_40.trans (hcb.2 _ (by have c9 := v_clamp (x := k) (by omega); omega))) ef_41 (by omega) (by omega)) hP hD hS (lv_sub hl [0, 1, 2, 3, 4] rfl)
    exact LOOP_67 _ 0 eX _ _ _ (ms_s _) (by decide) (g_eX) (by show 0 ≤ (eS 0).toInt; omega) (CPB_0 (by decide)) hP hD hS (lv_sub hl [0, 1, 2, 3, 4] rfl)

set_option maxHeartbeats 40000000 in
set_option maxRecDepth 100000 in
theorem f_X12_back (l : Launch) (dC : Nat → ClassId) (dI : Nat → Nat → Nat) (cI cS : ClassId) (sz : Nat) (oM : Nat) (mT : Nat) (mS : Nat) (mX : Nat) (mL : Nat) (mB : Nat) (mD : Nat) (m1 : Nat) (m2 : Nat) (mR : Nat) (x1 : Nat) (x2 : Nat) (x3 : Nat) (mH : Nat) (mY : Nat) (mE : Nat) (mW : Nat) (mO : Nat) (y1 : Nat) (y2 : Nat) (y3 : Nat) (y4 : Nat) (mZ : Nat) (zt : Int32) (zp : Int32) (zf : Int32) (zh : Int32) (zr : Int32) (zc : Int32) (zy : Int32) (za : Int32) (zb : Int32) (zs : Int32) (zq : Int32) (zw : Int32) (ze : Int32) (zn : Int32) (zm : Int32) (zl : Int32) (zk : Int32) (zd : Int32) (eS : Nat → Int32) (eX : Nat → Int32) (g_zt : 0 ≤ zt.toInt ∧ zt.toInt ≤ 900) (g_zp : 0 ≤ zp.toInt ∧ zp.toInt ≤ 20) (g_zf : 0 ≤ zf.toInt ∧ zf.toInt ≤ 19) (g_zh : 0 ≤ zh.toInt ∧ zh.toInt ≤ 6) (g_zr : 0 ≤ zr.toInt ∧ zr.toInt ≤ 258) (g_zc : 0 ≤ zc.toInt ∧ zc.toInt ≤ 300) (g_zy : 0 ≤ zy.toInt ∧ zy.toInt ≤ 65536) (g_za : 0 ≤ za.toInt ∧ za.toInt ≤ 5) (g_zb : 0 ≤ zb.toInt ∧ zb.toInt ≤ 5) (g_zs : 0 ≤ zs.toInt ∧ zs.toInt ≤ 2000000) (g_zq : -1 ≤ zq.toInt ∧ zq.toInt ≤ 2000000) (g_zn : 0 ≤ zn.toInt ∧ zn.toInt ≤ 2600) (g_zm : 0 ≤ zm.toInt ∧ zm.toInt ≤ 2600) (g_zk : 0 ≤ zk.toInt ∧ zk.toInt ≤ 300) (g_eS : rg 0 300 eS) (g_eX : rg 0 65535 eX) (hzs : zs.toInt ≤ 1000000) : Met l yX12_back wsX12_back ({ frames := 0, cells := 0, slots := 0, locals := 0 } : Room) (va_Pc [.ref oM] (fun U => U.heap.size = sz ∧ va_P (dC, dI) vwCl [(oM, .inr (12, [.ref mT, .int zt, .ref mS, .ref mX, .int zp, .int zf, .ref mL, .ref mB, .ref mD, .ref m1, .ref m2, .int zh, .ref mR, .int zr, .ref x1, .ref x2, .ref x3, .int zc, .ref mH, .int zy, .int za, .int zb, .int zs, .int zq, .int zw, .int ze, .ref mY, .int zn, .ref mE, .int zm, .int zl, .ref mW, .int zk, .ref mO, .int zd, .ref y1, .ref y2, .ref y3, .ref y4, .ref mZ])), (mS, .inl (cI, 21, .inl eS)), (mX, .inl (cI, 6300, .inl eX))] U.heap ∧ va_K (dC, dI) vwCl [(cI, .int), (cS, .short)] U ∧ va_D (fun _ => True) [(oM, .inr (12, [.ref mT, .int zt, .ref mS, .ref mX, .int zp, .int zf, .ref mL, .ref mB, .ref mD, .ref m1, .ref m2, .int zh, .ref mR, .int zr, .ref x1, .ref x2, .ref x3, .int zc, .ref mH, .int zy, .int za, .int zb, .int zs, .int zq, .int zw, .int ze, .ref mY, .int zn, .ref mE, .int zm, .int zl, .ref mW, .int zk, .ref mO, .int zd, .ref y1, .ref y2, .ref y3, .ref y4, .ref mZ])), (mS, .inl (cI, 21, .inl eS)), (mX, .inl (cI, 6300, .inl eX))])) (va_Qi (fun (r : Int32) (u : Int32) => r = u) (fun (r : Int32) t => ∃ (ze' : Int32) (zp' : Int32) (eS' : Nat → Int32) (eX' : Nat → Int32) (zs' : Int32), va_P (dC, dI) vwCl [(oM, .inr (12, [.ref mT, .int zt, .ref mS, .ref mX, .int zp', .int zf, .ref mL, .ref mB, .ref mD, .ref m1, .ref m2, .int zh, .ref mR, .int zr, .ref x1, .ref x2, .ref x3, .int zc, .ref mH, .int zy, .int za, .int zb, .int zs', .int zq, .int zw, .int ze', .ref mY, .int zn, .ref mE, .int zm, .int zl, .ref mW, .int zk, .ref mO, .int zd, .ref y1, .ref y2, .ref y3, .ref y4, .ref mZ])), (mS, .inl (cI, 21, .inl eS')), (mX, .inl (cI, 6300, .inl eX'))] t.heap ∧ va_D (va_A [(oM, .inr (12, [.ref mT, .int zt, .ref mS, .ref mX, .int zp, .int zf, .ref mL, .ref mB, .ref mD, .ref m1, .ref m2, .int zh, .ref mR, .int zr, .ref x1, .ref x2, .ref x3, .int zc, .ref mH, .int zy, .int za, .int zb, .int zs, .int zq, .int zw, .int ze, .ref mY, .int zn, .ref mE, .int zm, .int zl, .ref mW, .int zk, .ref mO, .int zd, .ref y1, .ref y2, .ref y3, .ref y4, .ref mZ])), (mS, .inl (cI, 21, .inl eS)), (mX, .inl (cI, 6300, .inl eX))] sz) [(oM, .inr (12, [.ref mT, .int zt, .ref mS, .ref mX, .int zp', .int zf, .ref mL, .ref mB, .ref mD, .ref m1, .ref m2, .int zh, .ref mR, .int zr, .ref x1, .ref x2, .ref x3, .int zc, .ref mH, .int zy, .int za, .int zb, .int zs', .int zq, .int zw, .int ze', .ref mY, .int zn, .ref mE, .int zm, .int zl, .ref mW, .int zk, .ref mO, .int zd, .ref y1, .ref y2, .ref y3, .ref y4, .ref mZ])), (mS, .inl (cI, 21, .inl eS')), (mX, .inl (cI, 6300, .inl eX'))] ∧ (0 ≤ zp'.toInt ∧ zp'.toInt ≤ 20) ∧ (rg 0 300 eS') ∧ (rg 0 65535 eX') ∧ (0 ≤ zs'.toInt ∧ zs'.toInt ≤ 2000000) ∧ (zs'.toInt ≤ zs.toInt + 1 ∧ zs.toInt ≤ zs'.toInt) ∧ (F_st zs zs' eX eX' eS eS') ∧ (F_tbR r zp zp' zf eS eS' eX eX') ∧ (F_zs (-1) r zs zs')) (va_A [(oM, .inr (12, [.ref mT, .int zt, .ref mS, .ref mX, .int zp, .int zf, .ref mL, .ref mB, .ref mD, .ref m1, .ref m2, .int zh, .ref mR, .int zr, .ref x1, .ref x2, .ref x3, .int zc, .ref mH, .int zy, .int za, .int zb, .int zs, .int zq, .int zw, .int ze, .ref mY, .int zn, .ref mE, .int zm, .int zl, .ref mW, .int zk, .ref mO, .int zd, .ref y1, .ref y2, .ref y3, .ref y4, .ref mZ])), (mS, .inl (cI, 21, .inl eS)), (mX, .inl (cI, 6300, .inl eX))] sz)) 0 0 (va_A [(oM, .inr (12, [.ref mT, .int zt, .ref mS, .ref mX, .int zp, .int zf, .ref mL, .ref mB, .ref mD, .ref m1, .ref m2, .int zh, .ref mR, .int zr, .ref x1, .ref x2, .ref x3, .int zc, .ref mH, .int zy, .int za, .int zb, .int zs, .int zq, .int zw, .int ze, .ref mY, .int zn, .ref mE, .int zm, .int zl, .ref mW, .int zk, .ref mO, .int zd, .ref y1, .ref y2, .ref y3, .ref y4, .ref mZ])), (mS, .inl (cI, 21, .inl eS)), (mX, .inl (cI, 6300, .inl eX))] sz) := by
  refine Met.ofW (cc := cX12_back) (maxL := 3) (ret := (some .int)) (by decide) rfl ?_
  intro p e s m args below meth c s₁ B hml hv
  obtain ⟨rfl, hsz, hP, hK, hD0⟩ := hv
  have hx := B.exec
  have hb := B.bytes
  have hr := B.returns
  have hts := atoms_spec (ws := wsX12_back) B.pre
  have hown : s.vm.findClass RX12 = some m.cls := findClass_of_methodNamed B.named
  have hlocks := B.notSynchronized
  have in_X12 : ∀ w ∈ wsX120, w ∈ wsX12_back := fun _ h => List.mem_cons_of_mem _ (List.mem_append_right _ (h))
  subst hsz
  have hD := hD0.self (sz := s.heap.size)
  generalize hAe : va_A [(oM, .inr (12, [.ref mT, .int zt, .ref mS, .ref mX, .int zp, .int zf, .ref mL, .ref mB, .ref mD, .ref m1, .ref m2, .int zh, .ref mR, .int zr, .ref x1, .ref x2, .ref x3, .int zc, .ref mH, .int zy, .int za, .int zb, .int zs, .int zq, .int zw, .int ze, .ref mY, .int zn, .ref mE, .int zm, .int zl, .ref mW, .int zk, .ref mO, .int zd, .ref y1, .ref y2, .ref y3, .ref y4, .ref mZ])), (mS, .inl (cI, 21, .inl eS)), (mX, .inl (cI, 6300, .inl eX))] s.heap.size = A at hD ⊢
  have hA : ∀ q : Nat, s.heap.size ≤ q → A q := fun q h => by rw [← hAe]; exact Or.inr h
  have hS : va_S A s.heap s.heap [] := va_S.rf
  have hP : va_P (dC, dI) vwCl [(oM, .inr (12, [.ref mT, .int zt, .ref mS, .ref mX, .int zp, .int zf, .ref mL, .ref mB, .ref mD, .ref m1, .ref m2, .int zh, .ref mR, .int zr, .ref x1, .ref x2, .ref x3, .int zc, .ref mH, .int zy, .int za, .int zb, .int zs, .int zq, .int zw, .int ze, .ref mY, .int zn, .ref mE, .int zm, .int zl, .ref mW, .int zk, .ref mO, .int zd, .ref y1, .ref y2, .ref y3, .ref y4, .ref mZ])), (mS, .inl (cI, 21, .inl eS)), (mX, .inl (cI, 6300, .inl eX))] s.heap := hP
  have hl := lv_entry ([.ref oM]) (n := 3) (Nat.le_of_ble_eq_true rfl)
  rw [lg_entry_eq]
  generalize (lg_sl ([.ref oM]) ++ List.replicate (3 - (lg_sl ([.ref oM])).length) Slot.unset).toArray = ls at hl ⊢
  have hl : lv_has ls 3 [(0, .ref oM)] := hl
  obtain ⟨QQ, hQQ⟩ : ∃ QQ : Array Value → State → Outcome → State → Prop, QQ = va_Qi (fun (r : Int32) (u : Int32) => r = u) (fun (r : Int32) t => ∃ (ze' : Int32) (zp' : Int32) (eS' : Nat → Int32) (eX' : Nat → Int32) (zs' : Int32), va_P (dC, dI) vwCl [(oM, .inr (12, [.ref mT, .int zt, .ref mS, .ref mX, .int zp', .int zf, .ref mL, .ref mB, .ref mD, .ref m1, .ref m2, .int zh, .ref mR, .int zr, .ref x1, .ref x2, .ref x3, .int zc, .ref mH, .int zy, .int za, .int zb, .int zs', .int zq, .int zw, .int ze', .ref mY, .int zn, .ref mE, .int zm, .int zl, .ref mW, .int zk, .ref mO, .int zd, .ref y1, .ref y2, .ref y3, .ref y4, .ref mZ])), (mS, .inl (cI, 21, .inl eS')), (mX, .inl (cI, 6300, .inl eX'))] t.heap ∧ va_D A [(oM, .inr (12, [.ref mT, .int zt, .ref mS, .ref mX, .int zp', .int zf, .ref mL, .ref mB, .ref mD, .ref m1, .ref m2, .int zh, .ref mR, .int zr, .ref x1, .ref x2, .ref x3, .int zc, .ref mH, .int zy, .int za, .int zb, .int zs', .int zq, .int zw, .int ze', .ref mY, .int zn, .ref mE, .int zm, .int zl, .ref mW, .int zk, .ref mO, .int zd, .ref y1, .ref y2, .ref y3, .ref y4, .ref mZ])), (mS, .inl (cI, 21, .inl eS')), (mX, .inl (cI, 6300, .inl eX'))] ∧ (0 ≤ zp'.toInt ∧ zp'.toInt ≤ 20) ∧ (rg 0 300 eS') ∧ (rg 0 65535 eX') ∧ (0 ≤ zs'.toInt ∧ zs'.toInt ≤ 2000000) ∧ (zs'.toInt ≤ zs.toInt + 1 ∧ zs.toInt ≤ zs'.toInt) ∧ (F_st zs zs' eX eX' eS eS') ∧ (F_tbR r zp zp' zf eS eS' eX eX') ∧ (F_zs (-1) r zs zs')) A := ⟨_, rfl⟩
  rw [← hQQ]
  refine lv_aload_n hx hb dX12_back_0 rfl (lv_at hl 0 rfl) ?_
  refine lv_iconst (v := 0) hx hb dX12_back_1 (by decide) ?_
  refine va_put (D := (dC, dI)) (ci := 12) (v := .int 0) (ty := .int) (C := RX12) (T := TX12) (N := 40) hx hb hts in_X12 tyX12 tyX12_ok nmX12 hown hK hP hD hS 0 rfl rfl 25 (by decide) (hts (.fieldLink RX12 85 "TextMenderModel" "thrown" "I") (List.mem_of_getElem? (i := 1) rfl)) (fun _ h9 => h9) rfl (by decide +kernel) rfl rfl (Nat.le_of_ble_eq_true rfl) dX12_back_2 (fun H locs hPn hDn hSn => ?_)
  clear hP hD hS
  have hP : va_P (dC, dI) vwCl [(oM, .inr (12, [.ref mT, .int zt, .ref mS, .ref mX, .int zp, .int zf, .ref mL, .ref mB, .ref mD, .ref m1, .ref m2, .int zh, .ref mR, .int zr, .ref x1, .ref x2, .ref x3, .int zc, .ref mH, .int zy, .int za, .int zb, .int zs, .int zq, .int zw, .int 0, .ref mY, .int zn, .ref mE, .int zm, .int zl, .ref mW, .int zk, .ref mO, .int zd, .ref y1, .ref y2, .ref y3, .ref y4, .ref mZ])), (mS, .inl (cI, 21, .inl eS)), (mX, .inl (cI, 6300, .inl eX))] H := hPn
  have hD : va_D A [(oM, .inr (12, [.ref mT, .int zt, .ref mS, .ref mX, .int zp, .int zf, .ref mL, .ref mB, .ref mD, .ref m1, .ref m2, .int zh, .ref mR, .int zr, .ref x1, .ref x2, .ref x3, .int zc, .ref mH, .int zy, .int za, .int zb, .int zs, .int zq, .int zw, .int 0, .ref mY, .int zn, .ref mE, .int zm, .int zl, .ref mW, .int zk, .ref mO, .int zd, .ref y1, .ref y2, .ref y3, .ref y4, .ref mZ])), (mS, .inl (cI, 21, .inl eS)), (mX, .inl (cI, 6300, .inl eX))] := hDn
  have hS := hSn
  clear hPn hDn hSn
  refine lv_aload_n hx hb dX12_back_5 rfl (lv_at hl 0 rfl) ?_
  refine va_get (D := (dC, dI)) (ci := 12) (v := .int zp) (C := RX12) (T := TX12) (N := 40) hx hb hts in_X12 hown hK hP 0 rfl rfl 4 (by decide) (hts (.fieldLink RX12 142 "TextMenderModel" "past" "I") (List.mem_of_getElem? (i := 2) rfl)) (fun _ h9 => h9) rfl dX12_back_6 ?_
  refine lv_if_ne (tgt := 14) hx hb dX12_back_9 (by decide) (fun c_1 => ?_) (fun c_1 => ?_)
  · have tc_1 : ¬ zp.toInt = 0 := v_ne c_1
    refine lv_aload_n hx hb dX12_back_14 rfl (lv_at hl 0 rfl) ?_
    refine lv_dup hx hb dX12_back_15 rfl ?_
    refine va_get (D := (dC, dI)) (ci := 12) (v := .int zp) (C := RX12) (T := TX12) (N := 40) hx hb hts in_X12 hown hK hP 0 rfl rfl 4 (by decide) (hts (.fieldLink RX12 142 "TextMenderModel" "past" "I") (List.mem_of_getElem? (i := 2) rfl)) (fun _ h9 => h9) rfl dX12_back_16 ?_
    refine lv_iconst (v := 1) hx hb dX12_back_19 (by decide) ?_
    refine lv_isub hx hb dX12_back_20 ?_
    refine lv_topi (fun x_2 ex_2 => ?_)
    have tx_2 : x_2.toInt = zp.toInt - 1 := v_sub ex_2 (by show -2147483648 ≤ zp.toInt - 1; omega) (by show zp.toInt - 1 < 2147483648; omega)
    refine va_put (D := (dC, dI)) (ci := 12) (v := .int x_2) (ty := .int) (C := RX12) (T := TX12) (N := 40) hx hb hts in_X12 tyX12 tyX12_ok nmX12 hown hK hP hD hS 0 rfl rfl 4 (by decide) (hts (.fieldLink RX12 142 "TextMenderModel" "past" "I") (List.mem_of_getElem? (i := 2) rfl)) (fun _ h9 => h9) rfl (by decide +kernel) rfl rfl (Nat.le_of_ble_eq_true rfl) dX12_back_21 (fun H locs hPn hDn hSn => ?_)
    clear hP hD hS
    have hP : va_P (dC, dI) vwCl [(oM, .inr (12, [.ref mT, .int zt, .ref mS, .ref mX, .int x_2, .int zf, .ref mL, .ref mB, .ref mD, .ref m1, .ref m2, .int zh, .ref mR, .int zr, .ref x1, .ref x2, .ref x3, .int zc, .ref mH, .int zy, .int za, .int zb, .int zs, .int zq, .int zw, .int 0, .ref mY, .int zn, .ref mE, .int zm, .int zl, .ref mW, .int zk, .ref mO, .int zd, .ref y1, .ref y2, .ref y3, .ref y4, .ref mZ])), (mS, .inl (cI, 21, .inl eS)), (mX, .inl (cI, 6300, .inl eX))] H := hPn
    have hD : va_D A [(oM, .inr (12, [.ref mT, .int zt, .ref mS, .ref mX, .int x_2, .int zf, .ref mL, .ref mB, .ref mD, .ref m1, .ref m2, .int zh, .ref mR, .int zr, .ref x1, .ref x2, .ref x3, .int zc, .ref mH, .int zy, .int za, .int zb, .int zs, .int zq, .int zw, .int 0, .ref mY, .int zn, .ref mE, .int zm, .int zl, .ref mW, .int zk, .ref mO, .int zd, .ref y1, .ref y2, .ref y3, .ref y4, .ref mZ])), (mS, .inl (cI, 21, .inl eS)), (mX, .inl (cI, 6300, .inl eX))] := hDn
    have hS := hSn
    clear hPn hDn hSn
    refine lv_iconst (v := 1) hx hb dX12_back_24 (by decide) ?_
    refine lv_aload_n hx hb dX12_back_25 rfl (lv_at hl 0 rfl) ?_
    refine va_get (D := (dC, dI)) (ci := 12) (v := .int zf) (C := RX12) (T := TX12) (N := 40) hx hb hts in_X12 hown hK hP 0 rfl rfl 5 (by decide) (hts (.fieldLink RX12 145 "TextMenderModel" "firstPast" "I") (List.mem_of_getElem? (i := 3) rfl)) (fun _ h9 => h9) rfl dX12_back_26 ?_
    refine lv_aload_n hx hb dX12_back_29 rfl (lv_at hl 0 rfl) ?_
    refine va_get (D := (dC, dI)) (ci := 12) (v := .int x_2) (C := RX12) (T := TX12) (N := 40) hx hb hts in_X12 hown hK hP 0 rfl rfl 4 (by decide) (hts (.fieldLink RX12 142 "TextMenderModel" "past" "I") (List.mem_of_getElem? (i := 2) rfl)) (fun _ h9 => h9) rfl dX12_back_30 ?_
    refine lv_iadd hx hb dX12_back_33 ?_
    refine lv_topi (fun x_3 ex_3 => ?_)
    have tx_3 : x_3.toInt = zf.toInt + x_2.toInt := v_add ex_3 (by show -2147483648 ≤ zf.toInt + x_2.toInt; omega) (by show zf.toInt + x_2.toInt < 2147483648; omega)
    refine lv_bipush (v := 20) hx hb dX12_back_34 (by decide) ?_
    refine lv_irem hx hb dX12_back_36 (by decide) ?_
    refine lv_topi (fun x_4 ex_4 => ?_)
    have tx_4 : x_4.toInt = x_3.toInt % 20 := v_rem ex_4 (by omega) (by decide)
    refine lv_iadd hx hb dX12_back_37 ?_
    refine lv_topi (fun x_5 ex_5 => ?_)
    have tx_5 : x_5.toInt = 1 + x_4.toInt := v_add ex_5 (by show -2147483648 ≤ 1 + x_4.toInt; omega) (by show 1 + x_4.toInt < 2147483648; omega)
    refine lv_istore_n (lv' := [(1, .int x_5), (0, .ref oM)]) hx hb dX12_back_38 rfl hl (by decide) rfl (fun ls hl => ?_)
    refine lv_aload_n hx hb dX12_back_39 rfl (lv_at hl 1 rfl) ?_
    refine va_get (D := (dC, dI)) (ci := 12) (v := .ref mS) (C := RX12) (T := TX12) (N := 40) hx hb hts in_X12 hown hK hP 0 rfl rfl 2 (by decide) (hts (.fieldLink RX12 13 "TextMenderModel" "sizes" "[I") (List.mem_of_getElem? (i := 4) rfl)) (fun _ h9 => h9) rfl dX12_back_40 ?_
    refine lv_iconst (v := 0) hx hb dX12_back_43 (by decide) ?_
    refine lv_aload_n hx hb dX12_back_44 rfl (lv_at hl 1 rfl) ?_
    refine va_get (D := (dC, dI)) (ci := 12) (v := .ref mS) (C := RX12) (T := TX12) (N := 40) hx hb hts in_X12 hown hK hP 0 rfl rfl 2 (by decide) (hts (.fieldLink RX12 13 "TextMenderModel" "sizes" "[I") (List.mem_of_getElem? (i := 4) rfl)) (fun _ h9 => h9) rfl dX12_back_45 ?_
    refine lv_iload_n hx hb dX12_back_48 rfl (lv_at hl 0 rfl) ?_
    refine va_iald hx hb hK hP 1 0 rfl rfl (v_in (by omega)) dX12_back_49 ?_
    refine lv_topi (fun x_6 ex_6 => ?_)
    have tx_6 : 0 ≤ x_6.toInt ∧ x_6.toInt ≤ 300 := rg_at g_eS ex_6
    refine va_iast hx hb hK hP hD hS 1 0 rfl rfl (by unfold vp_in; decide) dX12_back_50 (fun H locs hPn hDn hSn => ?_)
    clear hP hD hS
    have hP : va_P (dC, dI) vwCl [(oM, .inr (12, [.ref mT, .int zt, .ref mS, .ref mX, .int x_2, .int zf, .ref mL, .ref mB, .ref mD, .ref m1, .ref m2, .int zh, .ref mR, .int zr, .ref x1, .ref x2, .ref x3, .int zc, .ref mH, .int zy, .int za, .int zb, .int zs, .int zq, .int zw, .int 0, .ref mY, .int zn, .ref mE, .int zm, .int zl, .ref mW, .int zk, .ref mO, .int zd, .ref y1, .ref y2, .ref y3, .ref y4, .ref mZ])), (mS, .inl (cI, 21, .inl (upd eS (0 : Int32).toNatClampNeg x_6))), (mX, .inl (cI, 6300, .inl eX))] H := hPn
    have hD : va_D A [(oM, .inr (12, [.ref mT, .int zt, .ref mS, .ref mX, .int x_2, .int zf, .ref mL, .ref mB, .ref mD, .ref m1, .ref m2, .int zh, .ref mR, .int zr, .ref x1, .ref x2, .ref x3, .int zc, .ref mH, .int zy, .int za, .int zb, .int zs, .int zq, .int zw, .int 0, .ref mY, .int zn, .ref mE, .int zm, .int zl, .ref mW, .int zk, .ref mO, .int zd, .ref y1, .ref y2, .ref y3, .ref y4, .ref mZ])), (mS, .inl (cI, 21, .inl (upd eS (0 : Int32).toNatClampNeg x_6))), (mX, .inl (cI, 6300, .inl eX))] := hDn
    have hS := hSn
    clear hPn hDn hSn
    obtain ⟨f_7, ef_7⟩ : ∃ g : Nat → Int32, g = upd eS (0 : Int32).toNatClampNeg x_6 := ⟨_, rfl⟩
    rw [← ef_7] at hP hD
    have g_f7 : rg 0 300 f_7 := rg_upd ef_7 g_eS (by omega)
    refine lv_iconst (v := 0) hx hb dX12_back_51 (by decide) ?_
    refine lv_istore_n (lv' := [(2, .int 0), (1, .int x_5), (0, .ref oM)]) hx hb dX12_back_52 rfl hl (by decide) rfl (fun ls hl => ?_)
    have LOOP_53 : ∀ (k_53 : Nat) (k : Int32) (eXa : Nat → Int32) (H : Heap) (locs : List Loc) (ls : Array Slot), MSd (300 - k.toInt : Int) k_53 → (0 ≤ k.toInt ∧ k.toInt ≤ 300) → (rg 0 65535 eXa) → (k.toInt ≤ x_6.toInt) → (CPB 0 k.toInt eX eXa (fun j => eX (300 * x_5.toNatClampNeg + j))) → va_P (dC, dI) vwCl [(oM, .inr (12, [.ref mT, .int zt, .ref mS, .ref mX, .int x_2, .int zf, .ref mL, .ref mB, .ref mD, .ref m1, .ref m2, .int zh, .ref mR, .int zr, .ref x1, .ref x2, .ref x3, .int zc, .ref mH, .int zy, .int za, .int zb, .int zs, .int zq, .int zw, .int 0, .ref mY, .int zn, .ref mE, .int zm, .int zl, .ref mW, .int zk, .ref mO, .int zd, .ref y1, .ref y2, .ref y3, .ref y4, .ref mZ])), (mS, .inl (cI, 21, .inl f_7)), (mX, .inl (cI, 6300, .inl eXa))] H → va_D A [(oM, .inr (12, [.ref mT, .int zt, .ref mS, .ref mX, .int x_2, .int zf, .ref mL, .ref mB, .ref mD, .ref m1, .ref m2, .int zh, .ref mR, .int zr, .ref x1, .ref x2, .ref x3, .int zc, .ref mH, .int zy, .int za, .int zb, .int zs, .int zq, .int zw, .int 0, .ref mY, .int zn, .ref mE, .int zm, .int zl, .ref mW, .int zk, .ref mO, .int zd, .ref y1, .ref y2, .ref y3, .ref y4, .ref mZ])), (mS, .inl (cI, 21, .inl f_7)), (mX, .inl (cI, 6300, .inl eXa))] → va_S A s.heap H locs → lv_has ls 3 [(2, .int k), (1, .int x_5), (0, .ref oM)] → W p l e (headSpec wsX12_back ({ frames := 0, cells := 0, slots := 0, locals := 0 } : Room)).room s m ([.ref oM] : List Value).toArray below meth c H locs 0 0 (MQ below QQ ([.ref oM] : List Value).toArray s 0 0 A) (F0 m 53 ls []) := by
      clear hP hD hS hl
      intro k_53
      induction k_53 with
      | zero =>
        intro k eXa H locs ls hm_53 g_k g_eXa hks hcb hP hD hS hl
        exact ms_0 hm_53
      | succ k_53 ih_53 =>
        intro k eXa H locs ls hm_53 g_k g_eXa hks hcb hP hD hS hl
        refine lv_iload_n hx hb dX12_back_53 rfl (lv_at hl 0 rfl) ?_
        refine lv_aload_n hx hb dX12_back_54 rfl (lv_at hl 2 rfl) ?_
        refine va_get (D := (dC, dI)) (ci := 12) (v := .ref mS) (C := RX12) (T := TX12) (N := 40) hx hb hts in_X12 hown hK hP 0 rfl rfl 2 (by decide) (hts (.fieldLink RX12 13 "TextMenderModel" "sizes" "[I") (List.mem_of_getElem? (i := 4) rfl)) (fun _ h9 => h9) rfl dX12_back_55 ?_
        refine lv_iconst (v := 0) hx hb dX12_back_58 (by decide) ?_
        refine va_iald hx hb hK hP 1 0 rfl rfl (by unfold vp_in; decide) dX12_back_59 ?_
        refine lv_topi (fun x_8 ex_8 => ?_)
        have tx_8 : 0 ≤ x_8.toInt ∧ x_8.toInt ≤ 300 := rg_at g_f7 ex_8
        have hs_x_8 : x_8 = x_6 := ub0 ef_7 ex_8
        have hi_x_8 : x_8.toInt = x_6.toInt := v_eq hs_x_8
        refine lv_icmp_ge (tgt := 87) hx hb dX12_back_60 (by decide) (fun c_9 => ?_) (fun c_9 => ?_)
        · have tc_9 : x_8.toInt ≤ k.toInt := v_le c_9
          refine lv_aload_n hx hb dX12_back_87 rfl (lv_at hl 2 rfl) ?_
          refine lv_dup hx hb dX12_back_88 rfl ?_
          refine va_get (D := (dC, dI)) (ci := 12) (v := .int zs) (C := RX12) (T := TX12) (N := 40) hx hb hts in_X12 hown hK hP 0 rfl rfl 22 (by decide) (hts (.fieldLink RX12 148 "TextMenderModel" "state" "I") (List.mem_of_getElem? (i := 6) rfl)) (fun _ h9 => h9) rfl dX12_back_89 ?_
          refine lv_iconst (v := 1) hx hb dX12_back_92 (by decide) ?_
          refine lv_iadd hx hb dX12_back_93 ?_
          refine lv_topi (fun x_10 ex_10 => ?_)
          have tx_10 : x_10.toInt = zs.toInt + 1 := v_add ex_10 (by show -2147483648 ≤ zs.toInt + 1; omega) (by show zs.toInt + 1 < 2147483648; omega)
          refine va_put (D := (dC, dI)) (ci := 12) (v := .int x_10) (ty := .int) (C := RX12) (T := TX12) (N := 40) hx hb hts in_X12 tyX12 tyX12_ok nmX12 hown hK hP hD hS 0 rfl rfl 22 (by decide) (hts (.fieldLink RX12 148 "TextMenderModel" "state" "I") (List.mem_of_getElem? (i := 6) rfl)) (fun _ h9 => h9) rfl (by decide +kernel) rfl rfl (Nat.le_of_ble_eq_true rfl) dX12_back_94 (fun H locs hPn hDn hSn => ?_)
          clear hP hD hS
          have hP : va_P (dC, dI) vwCl [(oM, .inr (12, [.ref mT, .int zt, .ref mS, .ref mX, .int x_2, .int zf, .ref mL, .ref mB, .ref mD, .ref m1, .ref m2, .int zh, .ref mR, .int zr, .ref x1, .ref x2, .ref x3, .int zc, .ref mH, .int zy, .int za, .int zb, .int x_10, .int zq, .int zw, .int 0, .ref mY, .int zn, .ref mE, .int zm, .int zl, .ref mW, .int zk, .ref mO, .int zd, .ref y1, .ref y2, .ref y3, .ref y4, .ref mZ])), (mS, .inl (cI, 21, .inl f_7)), (mX, .inl (cI, 6300, .inl eXa))] H := hPn
          have hD : va_D A [(oM, .inr (12, [.ref mT, .int zt, .ref mS, .ref mX, .int x_2, .int zf, .ref mL, .ref mB, .ref mD, .ref m1, .ref m2, .int zh, .ref mR, .int zr, .ref x1, .ref x2, .ref x3, .int zc, .ref mH, .int zy, .int za, .int zb, .int x_10, .int zq, .int zw, .int 0, .ref mY, .int zn, .ref mE, .int zm, .int zl, .ref mW, .int zk, .ref mO, .int zd, .ref y1, .ref y2, .ref y3, .ref y4, .ref mZ])), (mS, .inl (cI, 21, .inl f_7)), (mX, .inl (cI, 6300, .inl eXa))] := hDn
          have hS := hSn
          clear hPn hDn hSn
          refine lv_aload_n hx hb dX12_back_97 rfl (lv_at hl 2 rfl) ?_
          refine va_get (D := (dC, dI)) (ci := 12) (v := .int x_2) (C := RX12) (T := TX12) (N := 40) hx hb hts in_X12 hown hK hP 0 rfl rfl 4 (by decide) (hts (.fieldLink RX12 142 "TextMenderModel" "past" "I") (List.mem_of_getElem? (i := 2) rfl)) (fun _ h9 => h9) rfl dX12_back_98 ?_
          have hP9 := hP.sub (ws' := [(oM, .inr (12, [.ref mT, .int zt, .ref mS, .ref mX, .int x_2, .int zf, .ref mL, .ref mB, .ref mD, .ref m1, .ref m2, .int zh, .ref mR, .int zr, .ref x1, .ref x2, .ref x3, .int zc, .ref mH, .int zy, .int za, .int zb, .int x_10, .int zq, .int zw, .int 0, .ref mY, .int zn, .ref mE, .int zm, .int zl, .ref mW, .int zk, .ref mO, .int zd, .ref y1, .ref y2, .ref y3, .ref y4, .ref mZ])), (mS, .inl (cI, 21, .inl f_7)), (mX, .inl (cI, 6300, .inl eXa))]) [0, 1, 2] rfl
          have hD9 := hD.sub (ws' := [(oM, .inr (12, [.ref mT, .int zt, .ref mS, .ref mX, .int x_2, .int zf, .ref mL, .ref mB, .ref mD, .ref m1, .ref m2, .int zh, .ref mR, .int zr, .ref x1, .ref x2, .ref x3, .int zc, .ref mH, .int zy, .int za, .int zb, .int x_10, .int zq, .int zw, .int 0, .ref mY, .int zn, .ref mE, .int zm, .int zl, .ref mW, .int zk, .ref mO, .int zd, .ref y1, .ref y2, .ref y3, .ref y4, .ref mZ])), (mS, .inl (cI, 21, .inl f_7)), (mX, .inl (cI, 6300, .inl eXa))]) [0, 1, 2] (by decide +kernel) rfl
          rw [hQQ]
          exact W.iret (v := x_2) hx hb hr (fun t ht hW => ⟨⟨x_2, x_2, rfl, rfl, ⟨0, x_2, f_7, eXa, x_10, by rw [ht]; exact hP9, hD9, by omega, g_f7, g_eXa, by omega, by show x_10.toInt ≤ zs.toInt + 1 ∧ zs.toInt ≤ x_10.toInt; omega, by first | exact Or.inl (by omega) | exact Or.inr ⟨rfl, rfl, rfl⟩, tbR_of (t := x_5) (by omega) (by omega) (by first | rfl | omega) (by omega) (by omega) ex_6 ef_7 hcb (by omega), by first | exact Or.inl ⟨by first | rfl | omega, rfl⟩ | exact Or.inr ⟨by first | decide | omega, by omega⟩⟩⟩, hS.F ht⟩) hS.2.2 dX12_back_101
        · have tc_9 : k.toInt < x_8.toInt := v_nle c_9
          refine lv_aload_n hx hb dX12_back_63 rfl (lv_at hl 2 rfl) ?_
          refine va_get (D := (dC, dI)) (ci := 12) (v := .ref mX) (C := RX12) (T := TX12) (N := 40) hx hb hts in_X12 hown hK hP 0 rfl rfl 3 (by decide) (hts (.fieldLink RX12 16 "TextMenderModel" "texts" "[I") (List.mem_of_getElem? (i := 5) rfl)) (fun _ h9 => h9) rfl dX12_back_64 ?_
          refine lv_iload_n hx hb dX12_back_67 rfl (lv_at hl 0 rfl) ?_
          refine lv_aload_n hx hb dX12_back_68 rfl (lv_at hl 2 rfl) ?_
          refine va_get (D := (dC, dI)) (ci := 12) (v := .ref mX) (C := RX12) (T := TX12) (N := 40) hx hb hts in_X12 hown hK hP 0 rfl rfl 3 (by decide) (hts (.fieldLink RX12 16 "TextMenderModel" "texts" "[I") (List.mem_of_getElem? (i := 5) rfl)) (fun _ h9 => h9) rfl dX12_back_69 ?_
          refine lv_sipush (v := 300) hx hb dX12_back_72 (by decide) ?_
          refine lv_iload_n hx hb dX12_back_75 rfl (lv_at hl 1 rfl) ?_
          refine lv_imul hx hb dX12_back_76 ?_
          refine lv_topi (fun x_11 ex_11 => ?_)
          have tx_11 : x_11.toInt = 300 * x_5.toInt := v_mul ex_11 (by show -2147483648 ≤ 300 * x_5.toInt; omega) (by show 300 * x_5.toInt < 2147483648; omega)
          refine lv_iload_n hx hb dX12_back_77 rfl (lv_at hl 0 rfl) ?_
          refine lv_iadd hx hb dX12_back_78 ?_
          refine lv_topi (fun x_12 ex_12 => ?_)
          have tx_12 : x_12.toInt = x_11.toInt + k.toInt := v_add ex_12 (by show -2147483648 ≤ x_11.toInt + k.toInt; omega) (by show x_11.toInt + k.toInt < 2147483648; omega)
          refine va_iald hx hb hK hP 2 0 rfl rfl (v_in (by omega)) dX12_back_79 ?_
          refine lv_topi (fun x_13 ex_13 => ?_)
          have tx_13 : 0 ≤ x_13.toInt ∧ x_13.toInt ≤ 65535 := rg_at g_eXa ex_13
          refine va_iast hx hb hK hP hD hS 2 0 rfl rfl (v_in (by omega)) dX12_back_80 (fun H locs hPn hDn hSn => ?_)
          clear hP hD hS
          have hP : va_P (dC, dI) vwCl [(oM, .inr (12, [.ref mT, .int zt, .ref mS, .ref mX, .int x_2, .int zf, .ref mL, .ref mB, .ref mD, .ref m1, .ref m2, .int zh, .ref mR, .int zr, .ref x1, .ref x2, .ref x3, .int zc, .ref mH, .int zy, .int za, .int zb, .int zs, .int zq, .int zw, .int 0, .ref mY, .int zn, .ref mE, .int zm, .int zl, .ref mW, .int zk, .ref mO, .int zd, .ref y1, .ref y2, .ref y3, .ref y4, .ref mZ])), (mS, .inl (cI, 21, .inl f_7)), (mX, .inl (cI, 6300, .inl (upd eXa (k : Int32).toNatClampNeg x_13)))] H := hPn
          have hD : va_D A [(oM, .inr (12, [.ref mT, .int zt, .ref mS, .ref mX, .int x_2, .int zf, .ref mL, .ref mB, .ref mD, .ref m1, .ref m2, .int zh, .ref mR, .int zr, .ref x1, .ref x2, .ref x3, .int zc, .ref mH, .int zy, .int za, .int zb, .int zs, .int zq, .int zw, .int 0, .ref mY, .int zn, .ref mE, .int zm, .int zl, .ref mW, .int zk, .ref mO, .int zd, .ref y1, .ref y2, .ref y3, .ref y4, .ref mZ])), (mS, .inl (cI, 21, .inl f_7)), (mX, .inl (cI, 6300, .inl (upd eXa (k : Int32).toNatClampNeg x_13)))] := hDn
          have hS := hSn
          clear hPn hDn hSn
          obtain ⟨f_14, ef_14⟩ : ∃ g : Nat → Int32, g = upd eXa (k : Int32).toNatClampNeg x_13 := ⟨_, rfl⟩
          rw [← ef_14] at hP hD
          have g_f14 : rg 0 65535 f_14 := rg_upd ef_14 g_eXa (by omega)
          obtain ⟨x_15, ex_15⟩ : ∃ y : Int32, y = k + 1 := ⟨_, rfl⟩
          have tx_15 : x_15.toInt = k.toInt + 1 := v_add ex_15 (by show -2147483648 ≤ k.toInt + 1; omega) (by show k.toInt + 1 < 2147483648; omega)
          refine lv_iinc (v := x_15) (lv' := [(2, .int x_15), (1, .int x_5), (0, .ref oM)]) hx hb dX12_back_81 hl (k := 0) rfl (by rw [ex_15]; rfl) (by decide) rfl (fun ls hl => ?_)
          refine lv_goto (tgt := 53) hx hb dX12_back_84 (by decide) ?_
          exact ih_53 x_15 f_14 _ _ _ (ms_lt hm_53 (by show ((300 - x_15.toInt : Int)) < 300 - k.toInt; omega) (by show (0 : Int) < 300 - k.toInt; omega)) (by show 0 ≤ x_15.toInt ∧ x_15.toInt ≤ 300; omega) (g_f14) (by show x_15.toInt ≤ x_6.toInt; omega) (CPB_s (b := 0) hcb (by omega) (by omega) (ex_13.trans ((hcb.2 _ (by have c9 := v_clamp (x := x_12) (by omega); omega)).trans (by show eX _ = eX (300 * x_5.toNatClampNeg + k.toNatClampNeg); rw [ix_eq (x := x_12) (N := 300 * x_5.toNatClampNeg + k.toNatClampNeg) (by have c9 := v_clamp (x := k) (by omega); have c8 := v_clamp (x := x_5) (by omega); omega)]))) ef_14 (by omega) (by omega)) hP hD hS (lv_sub hl [0, 1, 2] rfl)
    exact LOOP_53 _ 0 eX _ _ _ (ms_s _) (by decide) (g_eX) (by show 0 ≤ x_6.toInt; omega) (CPB_0 (by decide)) hP hD hS (lv_sub hl [0, 1, 2] rfl)
  · have tc_1 : zp.toInt = 0 := v_eq c_1
    refine lv_iconst (v := (-1)) hx hb dX12_back_12 (by decide) ?_
    have hP9 := hP.sub (ws' := [(oM, .inr (12, [.ref mT, .int zt, .ref mS, .ref mX, .int zp, .int zf, .ref mL, .ref mB, .ref mD, .ref m1, .ref m2, .int zh, .ref mR, .int zr, .ref x1, .ref x2, .ref x3, .int zc, .ref mH, .int zy, .int za, .int zb, .int zs, .int zq, .int zw, .int 0, .ref mY, .int zn, .ref mE, .int zm, .int zl, .ref mW, .int zk, .ref mO, .int zd, .ref y1, .ref y2, .ref y3, .ref y4, .ref mZ])), (mS, .inl (cI, 21, .inl eS)), (mX, .inl (cI, 6300, .inl eX))]) [0, 1, 2] rfl
    have hD9 := hD.sub (ws' := [(oM, .inr (12, [.ref mT, .int zt, .ref mS, .ref mX, .int zp, .int zf, .ref mL, .ref mB, .ref mD, .ref m1, .ref m2, .int zh, .ref mR, .int zr, .ref x1, .ref x2, .ref x3, .int zc, .ref mH, .int zy, .int za, .int zb, .int zs, .int zq, .int zw, .int 0, .ref mY, .int zn, .ref mE, .int zm, .int zl, .ref mW, .int zk, .ref mO, .int zd, .ref y1, .ref y2, .ref y3, .ref y4, .ref mZ])), (mS, .inl (cI, 21, .inl eS)), (mX, .inl (cI, 6300, .inl eX))]) [0, 1, 2] (by decide +kernel) rfl
    rw [hQQ]
    exact W.iret (v := (-1)) hx hb hr (fun t ht hW => ⟨⟨(-1), (-1), rfl, rfl, ⟨0, zp, eS, eX, zs, by rw [ht]; exact hP9, hD9, g_zp, g_eS, g_eX, g_zs, by show zs.toInt ≤ zs.toInt + 1 ∧ zs.toInt ≤ zs.toInt; omega, by first | exact Or.inl (by omega) | exact Or.inr ⟨rfl, rfl, rfl⟩, Or.inr ⟨by omega, rfl, rfl, rfl, rfl⟩, by first | exact Or.inl ⟨by first | rfl | omega, rfl⟩ | exact Or.inr ⟨by first | decide | omega, by omega⟩⟩⟩, hS.F ht⟩) hS.2.2 dX12_back_13

set_option maxHeartbeats 40000000 in
set_option maxRecDepth 100000 in
theorem f_X11_back (l : Launch) (dC : Nat → ClassId) (dI : Nat → Nat → Nat) (cI cS : ClassId) (sz : Nat) (oX : Nat) (nT : Nat) (nL : Nat) (nM : Nat) (oC : Nat) (oP : Nat) (oH : Nat) (oK : Nat) (oG : Nat) (oR : Nat) (oQ : Nat) (oW : Nat) (aL : Nat) (g1 : Nat) (g2 : Nat) (nw : Nat) (w1 : Nat) (w2 : Nat) (w3 : Nat) (o7 : Nat) (o8 : Nat) (o9 : Nat) (w4 : Nat) (w5 : Nat) (w6 : Nat) (w7 : Nat) (fa : Int32) (lL : Int32) (fL : Nat → Int32) (gn : Int32) (lG : Int32) (fG1 : Nat → Int32) (fG2 : Nat → Int32) (ke : Int32) (tl : Int32) (fsh : Int32) (wi : Int32) (ri : Int32) (fm : Int32) (lm : Int32) (g_lL : 0 ≤ lL.toInt ∧ lL.toInt ≤ 300) (g_gn : 0 ≤ gn.toInt ∧ gn.toInt ≤ 19) (g_lG : 0 ≤ lG.toInt ∧ lG.toInt ≤ 20) (g_fG2 : rg 0 300 fG2) (g_ke : 0 ≤ ke.toInt ∧ ke.toInt ≤ 200) (g_fsh : 0 ≤ fsh.toInt ∧ fsh.toInt ≤ 1) (g_fm : -1 ≤ fm.toInt ∧ fm.toInt ≤ 800) (g_lm : -1 ≤ lm.toInt ∧ lm.toInt ≤ 800) : Met l yX11_back wsX11_back ({ frames := 2, cells := 0, slots := 0, locals := 43 } : Room) (va_Pc [.ref oX] (fun U => U.heap.size = sz ∧ va_P (dC, dI) vwCl [(oX, .inr (11, [.ref nT, .ref nL, .ref nM, .ref oC, .ref oP, .ref oH, .ref oK, .ref oG, .ref oR, .ref oQ, .ref oW, .int fa])), (nL, .inr (5, [.ref aL, .int lL])), (aL, .inl (cI, 300, .inl fL)), (oG, .inr (0, [.ref g1, .ref g2, .int gn, .int lG])), (g1, .inl (cI, 6000, .inl fG1)), (g2, .inl (cI, 20, .inl fG2)), (oW, .inr (1, [.ref oC, .ref oK, .ref nw, .ref w1, .ref w2, .ref w3, .ref o7, .ref o8, .ref o9, .ref w4, .ref w5, .ref w6, .ref w7, .int ke, .int tl, .int fsh, .int wi, .int ri, .int fm, .int lm]))] U.heap ∧ va_K (dC, dI) vwCl [(cI, .int), (cS, .short)] U ∧ va_D (fun _ => True) [(oX, .inr (11, [.ref nT, .ref nL, .ref nM, .ref oC, .ref oP, .ref oH, .ref oK, .ref oG, .ref oR, .ref oQ, .ref oW, .int fa])), (nL, .inr (5, [.ref aL, .int lL])), (aL, .inl (cI, 300, .inl fL)), (oG, .inr (0, [.ref g1, .ref g2, .int gn, .int lG])), (g1, .inl (cI, 6000, .inl fG1)), (g2, .inl (cI, 20, .inl fG2)), (oW, .inr (1, [.ref oC, .ref oK, .ref nw, .ref w1, .ref w2, .ref w3, .ref o7, .ref o8, .ref o9, .ref w4, .ref w5, .ref w6, .ref w7, .int ke, .int tl, .int fsh, .int wi, .int ri, .int fm, .int lm]))])) (va_Qi (fun (r : Int32) (u : Int32) => r = u) (fun (r : Int32) t => ∃ (lL' : Int32) (fL' : Nat → Int32) (fsh' : Int32) (gn' : Int32) (lG' : Int32), va_P (dC, dI) vwCl [(oX, .inr (11, [.ref nT, .ref nL, .ref nM, .ref oC, .ref oP, .ref oH, .ref oK, .ref oG, .ref oR, .ref oQ, .ref oW, .int fa])), (nL, .inr (5, [.ref aL, .int lL'])), (aL, .inl (cI, 300, .inl fL')), (oG, .inr (0, [.ref g1, .ref g2, .int gn', .int lG'])), (g1, .inl (cI, 6000, .inl fG1)), (g2, .inl (cI, 20, .inl fG2)), (oW, .inr (1, [.ref oC, .ref oK, .ref nw, .ref w1, .ref w2, .ref w3, .ref o7, .ref o8, .ref o9, .ref w4, .ref w5, .ref w6, .ref w7, .int ke, .int tl, .int fsh', .int wi, .int ri, .int fm, .int lm]))] t.heap ∧ va_D (va_A [(oX, .inr (11, [.ref nT, .ref nL, .ref nM, .ref oC, .ref oP, .ref oH, .ref oK, .ref oG, .ref oR, .ref oQ, .ref oW, .int fa])), (nL, .inr (5, [.ref aL, .int lL])), (aL, .inl (cI, 300, .inl fL)), (oG, .inr (0, [.ref g1, .ref g2, .int gn, .int lG])), (g1, .inl (cI, 6000, .inl fG1)), (g2, .inl (cI, 20, .inl fG2)), (oW, .inr (1, [.ref oC, .ref oK, .ref nw, .ref w1, .ref w2, .ref w3, .ref o7, .ref o8, .ref o9, .ref w4, .ref w5, .ref w6, .ref w7, .int ke, .int tl, .int fsh, .int wi, .int ri, .int fm, .int lm]))] sz) [(oX, .inr (11, [.ref nT, .ref nL, .ref nM, .ref oC, .ref oP, .ref oH, .ref oK, .ref oG, .ref oR, .ref oQ, .ref oW, .int fa])), (nL, .inr (5, [.ref aL, .int lL'])), (aL, .inl (cI, 300, .inl fL')), (oG, .inr (0, [.ref g1, .ref g2, .int gn', .int lG'])), (g1, .inl (cI, 6000, .inl fG1)), (g2, .inl (cI, 20, .inl fG2)), (oW, .inr (1, [.ref oC, .ref oK, .ref nw, .ref w1, .ref w2, .ref w3, .ref o7, .ref o8, .ref o9, .ref w4, .ref w5, .ref w6, .ref w7, .int ke, .int tl, .int fsh', .int wi, .int ri, .int fm, .int lm]))] ∧ (0 ≤ lL'.toInt ∧ lL'.toInt ≤ 300) ∧ (0 ≤ fsh'.toInt ∧ fsh'.toInt ≤ 1) ∧ (0 ≤ gn'.toInt ∧ gn'.toInt ≤ 19) ∧ (0 ≤ lG'.toInt ∧ lG'.toInt ≤ 20) ∧ (F_bk r gn gn' lG lG' lL lL' fG1 fG2 fL fL') ∧ (F_fs (-1) r fsh fsh')) (va_A [(oX, .inr (11, [.ref nT, .ref nL, .ref nM, .ref oC, .ref oP, .ref oH, .ref oK, .ref oG, .ref oR, .ref oQ, .ref oW, .int fa])), (nL, .inr (5, [.ref aL, .int lL])), (aL, .inl (cI, 300, .inl fL)), (oG, .inr (0, [.ref g1, .ref g2, .int gn, .int lG])), (g1, .inl (cI, 6000, .inl fG1)), (g2, .inl (cI, 20, .inl fG2)), (oW, .inr (1, [.ref oC, .ref oK, .ref nw, .ref w1, .ref w2, .ref w3, .ref o7, .ref o8, .ref o9, .ref w4, .ref w5, .ref w6, .ref w7, .int ke, .int tl, .int fsh, .int wi, .int ri, .int fm, .int lm]))] sz)) 0 0 (va_A [(oX, .inr (11, [.ref nT, .ref nL, .ref nM, .ref oC, .ref oP, .ref oH, .ref oK, .ref oG, .ref oR, .ref oQ, .ref oW, .int fa])), (nL, .inr (5, [.ref aL, .int lL])), (aL, .inl (cI, 300, .inl fL)), (oG, .inr (0, [.ref g1, .ref g2, .int gn, .int lG])), (g1, .inl (cI, 6000, .inl fG1)), (g2, .inl (cI, 20, .inl fG2)), (oW, .inr (1, [.ref oC, .ref oK, .ref nw, .ref w1, .ref w2, .ref w3, .ref o7, .ref o8, .ref o9, .ref w4, .ref w5, .ref w6, .ref w7, .int ke, .int tl, .int fsh, .int wi, .int ri, .int fm, .int lm]))] sz) := by
  refine Met.ofW (cc := cX11_back) (maxL := 1) (ret := (some .int)) (by decide) rfl ?_
  intro p e s m args below meth c s₁ B hml hv
  obtain ⟨rfl, hsz, hP, hK, hD0⟩ := hv
  have hx := B.exec
  have hb := B.bytes
  have hr := B.returns
  have hts := atoms_spec (ws := wsX11_back) B.pre
  have hown : s.vm.findClass RX11 = some m.cls := findClass_of_methodNamed B.named
  have hlocks := B.notSynchronized
  have in_X11 : ∀ w ∈ wsX110, w ∈ wsX11_back := fun _ h => List.mem_cons_of_mem _ (List.mem_append_left _ (List.mem_append_left _ (List.mem_append_left _ (List.mem_append_right _ (h)))))
  subst hsz
  have hD := hD0.self (sz := s.heap.size)
  generalize hAe : va_A [(oX, .inr (11, [.ref nT, .ref nL, .ref nM, .ref oC, .ref oP, .ref oH, .ref oK, .ref oG, .ref oR, .ref oQ, .ref oW, .int fa])), (nL, .inr (5, [.ref aL, .int lL])), (aL, .inl (cI, 300, .inl fL)), (oG, .inr (0, [.ref g1, .ref g2, .int gn, .int lG])), (g1, .inl (cI, 6000, .inl fG1)), (g2, .inl (cI, 20, .inl fG2)), (oW, .inr (1, [.ref oC, .ref oK, .ref nw, .ref w1, .ref w2, .ref w3, .ref o7, .ref o8, .ref o9, .ref w4, .ref w5, .ref w6, .ref w7, .int ke, .int tl, .int fsh, .int wi, .int ri, .int fm, .int lm]))] s.heap.size = A at hD ⊢
  have hA : ∀ q : Nat, s.heap.size ≤ q → A q := fun q h => by rw [← hAe]; exact Or.inr h
  have hS : va_S A s.heap s.heap [] := va_S.rf
  have hP : va_P (dC, dI) vwCl [(oX, .inr (11, [.ref nT, .ref nL, .ref nM, .ref oC, .ref oP, .ref oH, .ref oK, .ref oG, .ref oR, .ref oQ, .ref oW, .int fa])), (nL, .inr (5, [.ref aL, .int lL])), (aL, .inl (cI, 300, .inl fL)), (oG, .inr (0, [.ref g1, .ref g2, .int gn, .int lG])), (g1, .inl (cI, 6000, .inl fG1)), (g2, .inl (cI, 20, .inl fG2)), (oW, .inr (1, [.ref oC, .ref oK, .ref nw, .ref w1, .ref w2, .ref w3, .ref o7, .ref o8, .ref o9, .ref w4, .ref w5, .ref w6, .ref w7, .int ke, .int tl, .int fsh, .int wi, .int ri, .int fm, .int lm]))] s.heap := hP
  have hl := lv_entry ([.ref oX]) (n := 1) (Nat.le_of_ble_eq_true rfl)
  rw [lg_entry_eq]
  generalize (lg_sl ([.ref oX]) ++ List.replicate (1 - (lg_sl ([.ref oX])).length) Slot.unset).toArray = ls at hl ⊢
  have hl : lv_has ls 1 [(0, .ref oX)] := hl
  obtain ⟨QQ, hQQ⟩ : ∃ QQ : Array Value → State → Outcome → State → Prop, QQ = va_Qi (fun (r : Int32) (u : Int32) => r = u) (fun (r : Int32) t => ∃ (lL' : Int32) (fL' : Nat → Int32) (fsh' : Int32) (gn' : Int32) (lG' : Int32), va_P (dC, dI) vwCl [(oX, .inr (11, [.ref nT, .ref nL, .ref nM, .ref oC, .ref oP, .ref oH, .ref oK, .ref oG, .ref oR, .ref oQ, .ref oW, .int fa])), (nL, .inr (5, [.ref aL, .int lL'])), (aL, .inl (cI, 300, .inl fL')), (oG, .inr (0, [.ref g1, .ref g2, .int gn', .int lG'])), (g1, .inl (cI, 6000, .inl fG1)), (g2, .inl (cI, 20, .inl fG2)), (oW, .inr (1, [.ref oC, .ref oK, .ref nw, .ref w1, .ref w2, .ref w3, .ref o7, .ref o8, .ref o9, .ref w4, .ref w5, .ref w6, .ref w7, .int ke, .int tl, .int fsh', .int wi, .int ri, .int fm, .int lm]))] t.heap ∧ va_D A [(oX, .inr (11, [.ref nT, .ref nL, .ref nM, .ref oC, .ref oP, .ref oH, .ref oK, .ref oG, .ref oR, .ref oQ, .ref oW, .int fa])), (nL, .inr (5, [.ref aL, .int lL'])), (aL, .inl (cI, 300, .inl fL')), (oG, .inr (0, [.ref g1, .ref g2, .int gn', .int lG'])), (g1, .inl (cI, 6000, .inl fG1)), (g2, .inl (cI, 20, .inl fG2)), (oW, .inr (1, [.ref oC, .ref oK, .ref nw, .ref w1, .ref w2, .ref w3, .ref o7, .ref o8, .ref o9, .ref w4, .ref w5, .ref w6, .ref w7, .int ke, .int tl, .int fsh', .int wi, .int ri, .int fm, .int lm]))] ∧ (0 ≤ lL'.toInt ∧ lL'.toInt ≤ 300) ∧ (0 ≤ fsh'.toInt ∧ fsh'.toInt ≤ 1) ∧ (0 ≤ gn'.toInt ∧ gn'.toInt ≤ 19) ∧ (0 ≤ lG'.toInt ∧ lG'.toInt ≤ 20) ∧ (F_bk r gn gn' lG lG' lL lL' fG1 fG2 fL fL') ∧ (F_fs (-1) r fsh fsh')) A := ⟨_, rfl⟩
  rw [← hQQ]
  refine lv_aload_n hx hb dX11_back_0 rfl (lv_at hl 0 rfl) ?_
  refine va_get (D := (dC, dI)) (ci := 11) (v := .ref oG) (C := RX11) (T := TX11) (N := 12) hx hb hts in_X11 hown hK hP 0 rfl rfl 7 (by decide) (hts (.fieldLink RX11 59 "TextMender" "changes" "LTextMender$Changes;") (List.mem_of_getElem? (i := 1) rfl)) (fun _ h9 => h9) rfl dX11_back_1 ?_
  refine lv_aload_n hx hb dX11_back_4 rfl (lv_at hl 0 rfl) ?_
  refine va_get (D := (dC, dI)) (ci := 11) (v := .ref nL) (C := RX11) (T := TX11) (N := 12) hx hb hts in_X11 hown hK hP 0 rfl rfl 1 (by decide) (hts (.fieldLink RX11 34 "TextMender" "letters" "LTextMender$Numbers;") (List.mem_of_getElem? (i := 2) rfl)) (fun _ h9 => h9) rfl dX11_back_5 ?_
  have hPc := hP.sub (ws' := [(oG, .inr (0, [.ref g1, .ref g2, .int gn, .int lG])), (g1, .inl (cI, 6000, .inl fG1)), (g2, .inl (cI, 20, .inl fG2)), (nL, .inr (5, [.ref aL, .int lL])), (aL, .inl (cI, 300, .inl fL))]) [3, 4, 5, 1, 2] rfl
  have hDc := hD.sub (ws' := [(oG, .inr (0, [.ref g1, .ref g2, .int gn, .int lG])), (g1, .inl (cI, 6000, .inl fG1)), (g2, .inl (cI, 20, .inl fG2)), (nL, .inr (5, [.ref aL, .int lL])), (aL, .inl (cI, 300, .inl fL))]) [3, 4, 5, 1, 2] (by decide +kernel) rfl
  have hFc := va_free (wc := [(oG, .inr (0, [.ref g1, .ref g2, .int gn, .int lG])), (g1, .inl (cI, 6000, .inl fG1)), (g2, .inl (cI, 20, .inl fG2)), (nL, .inr (5, [.ref aL, .int lL])), (aL, .inl (cI, 300, .inl fL))]) hD hS hA [3, 4, 5, 1, 2] rfl
  refine va_calli (va_runV (As := [.ref nL]) (rest := []) ⟨hx, hb, hml, hown, hts⟩ (f_X0_takeBack l dC dI cI cS s.heap.size oG nL g1 g2 aL gn lG fG1 fG2 lL fL (g_gn) (g_lG) (g_fG2) (g_lL)) (cwV 1 hts gX11_back_X0_takeBack rfl rfl rfl (by decide +kernel) ⟨Nat.le_of_ble_eq_true rfl, Nat.le_of_ble_eq_true rfl⟩) ⟨fun a U g mk q => by obtain ⟨q0, q1, qP, qK, qD⟩ := q; exact ⟨q0, q1, qP, va_K.moved (u := U) (U := U.calling g mk a) (Vm.Alike.refl U.vm) qK, qD⟩, va_recv hK hPc (ci := 0) (q0 := 0) rfl rfl, fun U hU hW => ⟨rfl, by rw [hU], by rw [hU]; exact hPc, va_K.moved hW.alike hK, hDc.weaken (fun _ _ _ _ => trivial)⟩⟩ rfl rfl hl.1 rfl (lv_room (Nat.le_of_ble_eq_true rfl)) dX11_back_8 ⟨Nat.le_of_ble_eq_true rfl, Nat.le_of_ble_eq_true rfl⟩) hS (fun q _ h => hFc q h) hFc (fun r_1 u t H1 locs ht hvm hw hB hz1 hk1 hSn => ?_)
  subst hw
  obtain ⟨gn_1, lG_1, ld_1, fd_1, hP1, hD1, hf1_0, hf1_1, hf1_2, hf1_3, hf1_4⟩ := hB
  rw [ht] at hP1
  obtain ⟨hPn, hDn⟩ := va_join (wr := [(oX, .inr (11, [.ref nT, .ref nL, .ref nM, .ref oC, .ref oP, .ref oH, .ref oK, .ref oG, .ref oR, .ref oQ, .ref oW, .int fa])), (oW, .inr (1, [.ref oC, .ref oK, .ref nw, .ref w1, .ref w2, .ref w3, .ref o7, .ref o8, .ref o9, .ref w4, .ref w5, .ref w6, .ref w7, .int ke, .int tl, .int fsh, .int wi, .int ri, .int fm, .int lm]))]) (w1 := [(oG, .inr (0, [.ref g1, .ref g2, .int gn_1, .int lG_1])), (g1, .inl (cI, 6000, .inl fG1)), (g2, .inl (cI, 20, .inl fG2)), (nL, .inr (5, [.ref aL, .int ld_1])), (aL, .inl (cI, 300, .inl fd_1))]) hP hD [3, 4, 5, 1, 2] [0, 6] rfl rfl (by decide +kernel) (by decide +kernel) hk1 hFc hP1 hD1
  clear hP hD hS hPc hDc hFc hk1 hz1 hvm ht hP1 hD1
  generalize H1 = H at hPn hSn ⊢
  have hP : va_P (dC, dI) vwCl [(oX, .inr (11, [.ref nT, .ref nL, .ref nM, .ref oC, .ref oP, .ref oH, .ref oK, .ref oG, .ref oR, .ref oQ, .ref oW, .int fa])), (oW, .inr (1, [.ref oC, .ref oK, .ref nw, .ref w1, .ref w2, .ref w3, .ref o7, .ref o8, .ref o9, .ref w4, .ref w5, .ref w6, .ref w7, .int ke, .int tl, .int fsh, .int wi, .int ri, .int fm, .int lm])), (oG, .inr (0, [.ref g1, .ref g2, .int gn_1, .int lG_1])), (g1, .inl (cI, 6000, .inl fG1)), (g2, .inl (cI, 20, .inl fG2)), (nL, .inr (5, [.ref aL, .int ld_1])), (aL, .inl (cI, 300, .inl fd_1))] H := hPn
  have hD : va_D A [(oX, .inr (11, [.ref nT, .ref nL, .ref nM, .ref oC, .ref oP, .ref oH, .ref oK, .ref oG, .ref oR, .ref oQ, .ref oW, .int fa])), (oW, .inr (1, [.ref oC, .ref oK, .ref nw, .ref w1, .ref w2, .ref w3, .ref o7, .ref o8, .ref o9, .ref w4, .ref w5, .ref w6, .ref w7, .int ke, .int tl, .int fsh, .int wi, .int ri, .int fm, .int lm])), (oG, .inr (0, [.ref g1, .ref g2, .int gn_1, .int lG_1])), (g1, .inl (cI, 6000, .inl fG1)), (g2, .inl (cI, 20, .inl fG2)), (nL, .inr (5, [.ref aL, .int ld_1])), (aL, .inl (cI, 300, .inl fd_1))] := hDn
  have hS := hSn
  clear hPn hDn hSn
  refine lv_if_ne (tgt := 16) hx hb dX11_back_11 (by decide) (fun c_2 => ?_) (fun c_2 => ?_)
  · have tc_2 : ¬ r_1.toInt = 0 := v_ne c_2
    refine lv_aload_n hx hb dX11_back_16 rfl (lv_at hl 0 rfl) ?_
    refine va_get (D := (dC, dI)) (ci := 11) (v := .ref oW) (C := RX11) (T := TX11) (N := 12) hx hb hts in_X11 hown hK hP 0 rfl rfl 10 (by decide) (hts (.fieldLink RX11 86 "TextMender" "choiceBook" "LTextMender$Choices;") (List.mem_of_getElem? (i := 3) rfl)) (fun _ h9 => h9) rfl dX11_back_17 ?_
    have hPc := hP.sub (ws' := [(oW, .inr (1, [.ref oC, .ref oK, .ref nw, .ref w1, .ref w2, .ref w3, .ref o7, .ref o8, .ref o9, .ref w4, .ref w5, .ref w6, .ref w7, .int ke, .int tl, .int fsh, .int wi, .int ri, .int fm, .int lm]))]) [1] rfl
    have hDc := hD.sub (ws' := [(oW, .inr (1, [.ref oC, .ref oK, .ref nw, .ref w1, .ref w2, .ref w3, .ref o7, .ref o8, .ref o9, .ref w4, .ref w5, .ref w6, .ref w7, .int ke, .int tl, .int fsh, .int wi, .int ri, .int fm, .int lm]))]) [1] (by decide +kernel) rfl
    have hFc := va_free (wc := [(oW, .inr (1, [.ref oC, .ref oK, .ref nw, .ref w1, .ref w2, .ref w3, .ref o7, .ref o8, .ref o9, .ref w4, .ref w5, .ref w6, .ref w7, .int ke, .int tl, .int fsh, .int wi, .int ri, .int fm, .int lm]))]) hD hS hA [1] rfl
    refine va_callv (va_runV (As := []) (rest := []) ⟨hx, hb, hml, hown, hts⟩ (f_X1_forgetFreshness l dC dI cI cS H.size oW oC oK nw w1 w2 w3 o7 o8 o9 w4 w5 w6 w7 ke tl fsh wi ri fm lm (g_ke) (g_fsh) (g_fm) (g_lm)) (cwV 0 hts gX11_back_X1_forgetFreshness rfl rfl rfl (by decide +kernel) ⟨Nat.le_of_ble_eq_true rfl, Nat.le_of_ble_eq_true rfl⟩) ⟨fun a U g mk q => by obtain ⟨q0, q1, qP, qK, qD⟩ := q; exact ⟨q0, q1, qP, va_K.moved (u := U) (U := U.calling g mk a) (Vm.Alike.refl U.vm) qK, qD⟩, va_recv hK hPc (ci := 1) (q0 := 0) rfl rfl, fun U hU hW => ⟨rfl, by rw [hU], by rw [hU]; exact hPc, va_K.moved hW.alike hK, hDc.weaken (fun _ _ _ _ => trivial)⟩⟩ rfl rfl hl.1 rfl (lv_room (Nat.le_of_ble_eq_true rfl)) dX11_back_20 ⟨Nat.le_of_ble_eq_true rfl, Nat.le_of_ble_eq_true rfl⟩) hS (fun q _ h => hFc q h) hFc (fun u t H1 locs ht hvm hw hB hz1 hk1 hSn => ?_)
    obtain ⟨fsh_3, hP1, hD1, hf3_0, hf3_1⟩ := hB
    rw [ht] at hP1
    obtain ⟨hPn, hDn⟩ := va_join (wr := [(oX, .inr (11, [.ref nT, .ref nL, .ref nM, .ref oC, .ref oP, .ref oH, .ref oK, .ref oG, .ref oR, .ref oQ, .ref oW, .int fa])), (oG, .inr (0, [.ref g1, .ref g2, .int gn_1, .int lG_1])), (g1, .inl (cI, 6000, .inl fG1)), (g2, .inl (cI, 20, .inl fG2)), (nL, .inr (5, [.ref aL, .int ld_1])), (aL, .inl (cI, 300, .inl fd_1))]) (w1 := [(oW, .inr (1, [.ref oC, .ref oK, .ref nw, .ref w1, .ref w2, .ref w3, .ref o7, .ref o8, .ref o9, .ref w4, .ref w5, .ref w6, .ref w7, .int ke, .int tl, .int fsh_3, .int wi, .int ri, .int fm, .int lm]))]) hP hD [1] [0, 2, 3, 4, 5, 6] rfl rfl (by decide +kernel) (by decide +kernel) hk1 hFc hP1 hD1
    clear hP hD hS hPc hDc hFc hk1 hz1 hvm ht hP1 hD1
    generalize H1 = H at hPn hSn ⊢
    have hP : va_P (dC, dI) vwCl [(oX, .inr (11, [.ref nT, .ref nL, .ref nM, .ref oC, .ref oP, .ref oH, .ref oK, .ref oG, .ref oR, .ref oQ, .ref oW, .int fa])), (oG, .inr (0, [.ref g1, .ref g2, .int gn_1, .int lG_1])), (g1, .inl (cI, 6000, .inl fG1)), (g2, .inl (cI, 20, .inl fG2)), (nL, .inr (5, [.ref aL, .int ld_1])), (aL, .inl (cI, 300, .inl fd_1)), (oW, .inr (1, [.ref oC, .ref oK, .ref nw, .ref w1, .ref w2, .ref w3, .ref o7, .ref o8, .ref o9, .ref w4, .ref w5, .ref w6, .ref w7, .int ke, .int tl, .int fsh_3, .int wi, .int ri, .int fm, .int lm]))] H := hPn
    have hD : va_D A [(oX, .inr (11, [.ref nT, .ref nL, .ref nM, .ref oC, .ref oP, .ref oH, .ref oK, .ref oG, .ref oR, .ref oQ, .ref oW, .int fa])), (oG, .inr (0, [.ref g1, .ref g2, .int gn_1, .int lG_1])), (g1, .inl (cI, 6000, .inl fG1)), (g2, .inl (cI, 20, .inl fG2)), (nL, .inr (5, [.ref aL, .int ld_1])), (aL, .inl (cI, 300, .inl fd_1)), (oW, .inr (1, [.ref oC, .ref oK, .ref nw, .ref w1, .ref w2, .ref w3, .ref o7, .ref o8, .ref o9, .ref w4, .ref w5, .ref w6, .ref w7, .int ke, .int tl, .int fsh_3, .int wi, .int ri, .int fm, .int lm]))] := hDn
    have hS := hSn
    clear hPn hDn hSn
    refine lv_aload_n hx hb dX11_back_23 rfl (lv_at hl 0 rfl) ?_
    refine va_get (D := (dC, dI)) (ci := 11) (v := .ref oG) (C := RX11) (T := TX11) (N := 12) hx hb hts in_X11 hown hK hP 0 rfl rfl 7 (by decide) (hts (.fieldLink RX11 59 "TextMender" "changes" "LTextMender$Changes;") (List.mem_of_getElem? (i := 1) rfl)) (fun _ h9 => h9) rfl dX11_back_24 ?_
    have hPc := hP.sub (ws' := [(oG, .inr (0, [.ref g1, .ref g2, .int gn_1, .int lG_1]))]) [1] rfl
    have hDc := hD.sub (ws' := [(oG, .inr (0, [.ref g1, .ref g2, .int gn_1, .int lG_1]))]) [1] (by decide +kernel) rfl
    have hFc := va_free (wc := [(oG, .inr (0, [.ref g1, .ref g2, .int gn_1, .int lG_1]))]) hD hS hA [1] rfl
    refine va_calli (va_runV (As := []) (rest := []) ⟨hx, hb, hml, hown, hts⟩ (m_X0_length l dC dI cI cS H.size oG g1 g2 gn_1 lG_1 (hf1_0) (hf1_1)) (cwV 0 hts gX11_back_X0_length rfl rfl rfl (by decide +kernel) ⟨Nat.le_of_ble_eq_true rfl, Nat.le_of_ble_eq_true rfl⟩) ⟨fun a U g mk q => by obtain ⟨q0, q1, qP, qK, qD⟩ := q; exact ⟨q0, q1, qP, va_K.moved (u := U) (U := U.calling g mk a) (Vm.Alike.refl U.vm) qK, qD⟩, va_recv hK hPc (ci := 0) (q0 := 0) rfl rfl, fun U hU hW => ⟨rfl, by rw [hU], by rw [hU]; exact hPc, va_K.moved hW.alike hK, hDc.weaken (fun _ _ _ _ => trivial)⟩⟩ rfl rfl hl.1 rfl (lv_room (Nat.le_of_ble_eq_true rfl)) dX11_back_27 ⟨Nat.le_of_ble_eq_true rfl, Nat.le_of_ble_eq_true rfl⟩) hS (fun q _ h => hFc q h) hFc (fun r_4 u t H1 locs ht hvm hw hB hz1 hk1 hSn => ?_)
    subst hw
    obtain ⟨hP1, hD1, hf4_0⟩ := hB
    rw [ht] at hP1
    obtain ⟨hPn, hDn⟩ := va_join (wr := [(oX, .inr (11, [.ref nT, .ref nL, .ref nM, .ref oC, .ref oP, .ref oH, .ref oK, .ref oG, .ref oR, .ref oQ, .ref oW, .int fa])), (g1, .inl (cI, 6000, .inl fG1)), (g2, .inl (cI, 20, .inl fG2)), (nL, .inr (5, [.ref aL, .int ld_1])), (aL, .inl (cI, 300, .inl fd_1)), (oW, .inr (1, [.ref oC, .ref oK, .ref nw, .ref w1, .ref w2, .ref w3, .ref o7, .ref o8, .ref o9, .ref w4, .ref w5, .ref w6, .ref w7, .int ke, .int tl, .int fsh_3, .int wi, .int ri, .int fm, .int lm]))]) (w1 := [(oG, .inr (0, [.ref g1, .ref g2, .int gn_1, .int lG_1]))]) hP hD [1] [0, 2, 3, 4, 5, 6] rfl rfl (by decide +kernel) (by decide +kernel) hk1 hFc hP1 hD1
    clear hP hD hS hPc hDc hFc hk1 hz1 hvm ht hP1 hD1
    generalize H1 = H at hPn hSn ⊢
    have hP : va_P (dC, dI) vwCl [(oX, .inr (11, [.ref nT, .ref nL, .ref nM, .ref oC, .ref oP, .ref oH, .ref oK, .ref oG, .ref oR, .ref oQ, .ref oW, .int fa])), (g1, .inl (cI, 6000, .inl fG1)), (g2, .inl (cI, 20, .inl fG2)), (nL, .inr (5, [.ref aL, .int ld_1])), (aL, .inl (cI, 300, .inl fd_1)), (oW, .inr (1, [.ref oC, .ref oK, .ref nw, .ref w1, .ref w2, .ref w3, .ref o7, .ref o8, .ref o9, .ref w4, .ref w5, .ref w6, .ref w7, .int ke, .int tl, .int fsh_3, .int wi, .int ri, .int fm, .int lm])), (oG, .inr (0, [.ref g1, .ref g2, .int gn_1, .int lG_1]))] H := hPn
    have hD : va_D A [(oX, .inr (11, [.ref nT, .ref nL, .ref nM, .ref oC, .ref oP, .ref oH, .ref oK, .ref oG, .ref oR, .ref oQ, .ref oW, .int fa])), (g1, .inl (cI, 6000, .inl fG1)), (g2, .inl (cI, 20, .inl fG2)), (nL, .inr (5, [.ref aL, .int ld_1])), (aL, .inl (cI, 300, .inl fd_1)), (oW, .inr (1, [.ref oC, .ref oK, .ref nw, .ref w1, .ref w2, .ref w3, .ref o7, .ref o8, .ref o9, .ref w4, .ref w5, .ref w6, .ref w7, .int ke, .int tl, .int fsh_3, .int wi, .int ri, .int fm, .int lm])), (oG, .inr (0, [.ref g1, .ref g2, .int gn_1, .int lG_1]))] := hDn
    have hS := hSn
    clear hPn hDn hSn
    rw [hf4_0]
    have hP9 := hP.sub (ws' := [(oX, .inr (11, [.ref nT, .ref nL, .ref nM, .ref oC, .ref oP, .ref oH, .ref oK, .ref oG, .ref oR, .ref oQ, .ref oW, .int fa])), (nL, .inr (5, [.ref aL, .int ld_1])), (aL, .inl (cI, 300, .inl fd_1)), (oG, .inr (0, [.ref g1, .ref g2, .int gn_1, .int lG_1])), (g1, .inl (cI, 6000, .inl fG1)), (g2, .inl (cI, 20, .inl fG2)), (oW, .inr (1, [.ref oC, .ref oK, .ref nw, .ref w1, .ref w2, .ref w3, .ref o7, .ref o8, .ref o9, .ref w4, .ref w5, .ref w6, .ref w7, .int ke, .int tl, .int fsh_3, .int wi, .int ri, .int fm, .int lm]))]) [0, 3, 4, 6, 1, 2, 5] rfl
    have hD9 := hD.sub (ws' := [(oX, .inr (11, [.ref nT, .ref nL, .ref nM, .ref oC, .ref oP, .ref oH, .ref oK, .ref oG, .ref oR, .ref oQ, .ref oW, .int fa])), (nL, .inr (5, [.ref aL, .int ld_1])), (aL, .inl (cI, 300, .inl fd_1)), (oG, .inr (0, [.ref g1, .ref g2, .int gn_1, .int lG_1])), (g1, .inl (cI, 6000, .inl fG1)), (g2, .inl (cI, 20, .inl fG2)), (oW, .inr (1, [.ref oC, .ref oK, .ref nw, .ref w1, .ref w2, .ref w3, .ref o7, .ref o8, .ref o9, .ref w4, .ref w5, .ref w6, .ref w7, .int ke, .int tl, .int fsh_3, .int wi, .int ri, .int fm, .int lm]))]) [0, 3, 4, 6, 1, 2, 5] (by decide +kernel) rfl
    rw [hQQ]
    exact W.iret (v := lG_1) hx hb hr (fun t ht hW => ⟨⟨lG_1, lG_1, rfl, rfl, ⟨ld_1, fd_1, fsh_3, gn_1, lG_1, by rw [ht]; exact hP9, hD9, hf1_2, hf3_0, hf1_0, hf1_1, ⟨r_1, hf1_4, Or.inl ⟨by omega, by first | rfl | omega⟩⟩, Or.inr ⟨by first | decide | omega, hf3_1⟩⟩⟩, hS.F ht⟩) hS.2.2 dX11_back_30
  · have tc_2 : r_1.toInt = 0 := v_eq c_2
    refine lv_iconst (v := (-1)) hx hb dX11_back_14 (by decide) ?_
    have hP9 := hP.sub (ws' := [(oX, .inr (11, [.ref nT, .ref nL, .ref nM, .ref oC, .ref oP, .ref oH, .ref oK, .ref oG, .ref oR, .ref oQ, .ref oW, .int fa])), (nL, .inr (5, [.ref aL, .int ld_1])), (aL, .inl (cI, 300, .inl fd_1)), (oG, .inr (0, [.ref g1, .ref g2, .int gn_1, .int lG_1])), (g1, .inl (cI, 6000, .inl fG1)), (g2, .inl (cI, 20, .inl fG2)), (oW, .inr (1, [.ref oC, .ref oK, .ref nw, .ref w1, .ref w2, .ref w3, .ref o7, .ref o8, .ref o9, .ref w4, .ref w5, .ref w6, .ref w7, .int ke, .int tl, .int fsh, .int wi, .int ri, .int fm, .int lm]))]) [0, 5, 6, 2, 3, 4, 1] rfl
    have hD9 := hD.sub (ws' := [(oX, .inr (11, [.ref nT, .ref nL, .ref nM, .ref oC, .ref oP, .ref oH, .ref oK, .ref oG, .ref oR, .ref oQ, .ref oW, .int fa])), (nL, .inr (5, [.ref aL, .int ld_1])), (aL, .inl (cI, 300, .inl fd_1)), (oG, .inr (0, [.ref g1, .ref g2, .int gn_1, .int lG_1])), (g1, .inl (cI, 6000, .inl fG1)), (g2, .inl (cI, 20, .inl fG2)), (oW, .inr (1, [.ref oC, .ref oK, .ref nw, .ref w1, .ref w2, .ref w3, .ref o7, .ref o8, .ref o9, .ref w4, .ref w5, .ref w6, .ref w7, .int ke, .int tl, .int fsh, .int wi, .int ri, .int fm, .int lm]))]) [0, 5, 6, 2, 3, 4, 1] (by decide +kernel) rfl
    rw [hQQ]
    exact W.iret (v := (-1)) hx hb hr (fun t ht hW => ⟨⟨(-1), (-1), rfl, rfl, ⟨ld_1, fd_1, fsh, gn_1, lG_1, by rw [ht]; exact hP9, hD9, hf1_2, g_fsh, hf1_0, hf1_1, ⟨r_1, hf1_4, Or.inr ⟨by omega, rfl⟩⟩, Or.inl ⟨by first | rfl | omega, rfl⟩⟩⟩, hS.F ht⟩) hS.2.2 dX11_back_15

end

/-! 59k.a.rows -/
section
theorem dX11_passes_0 : decode cX11_passes 0 = .ok (.aload_n 0, 1) := by decide +kernel
theorem dX11_passes_1 : decode cX11_passes 1 = .ok (.iconst (-1), 1) := by decide +kernel
theorem dX11_passes_2 : decode cX11_passes 2 = .ok (.putfield 90, 3) := by decide +kernel
theorem dX11_passes_5 : decode cX11_passes 5 = .ok (.iload_n 1, 1) := by decide +kernel
set_option maxRecDepth 20000 in
theorem ggX11_passes_X2_known : GoodIn wsX11_passes wsX2_known := goodIn_r _ [8] rfl (by decide +kernel)
set_option maxRecDepth 20000 in
theorem gX11_passes_X2_known : GoodIn wsX11_passes (va_wsS RX11 117 yX2_known wsX2_known) := goodIn_app (goodIn_r _ [5, 6, 7] rfl (by decide +kernel)) ggX11_passes_X2_known
theorem dX11_passes_6 : decode cX11_passes 6 = .ok (.invokestatic 117, 3) := by decide +kernel
theorem dX11_passes_9 : decode cX11_passes 9 = .ok (.ifCond .eq 10, 3) := by decide +kernel
theorem dX11_passes_19 : decode cX11_passes 19 = .ok (.iconst 0, 1) := by decide +kernel
theorem dX11_passes_20 : decode cX11_passes 20 = .ok (.ireturn, 1) := by decide +kernel
theorem dX11_passes_12 : decode cX11_passes 12 = .ok (.iload_n 2, 1) := by decide +kernel
theorem dX11_passes_13 : decode cX11_passes 13 = .ok (.invokestatic 117, 3) := by decide +kernel
theorem dX11_passes_16 : decode cX11_passes 16 = .ok (.ifCond .ne 5, 3) := by decide +kernel
theorem dX11_passes_21 : decode cX11_passes 21 = .ok (.aload_n 0, 1) := by decide +kernel
theorem dX11_passes_22 : decode cX11_passes 22 = .ok (.getfield 44, 3) := by decide +kernel
theorem dX11_passes_25 : decode cX11_passes 25 = .ok (.iload_n 1, 1) := by decide +kernel
theorem dX11_passes_26 : decode cX11_passes 26 = .ok (.iload_n 2, 1) := by decide +kernel
theorem dX11_passes_27 : decode cX11_passes 27 = .ok (.aload_n 0, 1) := by decide +kernel
theorem dX11_passes_28 : decode cX11_passes 28 = .ok (.getfield 34, 3) := by decide +kernel
theorem dX11_passes_31 : decode cX11_passes 31 = .ok (.aload_n 0, 1) := by decide +kernel
theorem dX11_passes_32 : decode cX11_passes 32 = .ok (.getfield 37, 3) := by decide +kernel
set_option maxRecDepth 20000 in
theorem ggX11_passes_X7_pass : GoodIn wsX11_passes wsX7_pass := goodIn_r _ [13, 14, 15, 16, 17, 12, 18, 19, 20, 21, 22, 23, 24, 25, 26, 27, 28, 29, 30, 31, 32, 33, 34, 35, 36, 37, 38, 7, 39, 40, 41, 42, 43, 44, 45, 46, 47, 48, 49, 50, 51, 52, 53, 54, 55, 56, 57, 58, 59, 60, 61, 62, 63, 64, 65, 66, 67, 68, 69, 70, 71, 72, 73, 74, 75, 76, 77, 78, 79, 80, 81, 82, 83, 84, 85, 86, 87, 88, 89, 90, 91, 92, 93, 94, 95, 96, 97, 98, 99, 100, 101, 102, 103, 104, 105, 106, 107, 108, 109, 110, 111, 112, 113, 114, 131, 132, 133, 134, 135, 136, 137, 138, 139, 140, 141] rfl (by decide +kernel)
set_option maxRecDepth 20000 in
theorem gX11_passes_X7_pass : GoodIn wsX11_passes (wsV RX11 253 RX7 yX7_pass wsX7_pass) := goodIn_app (goodIn_r _ [9, 10, 11, 12] rfl (by decide +kernel)) ggX11_passes_X7_pass
theorem dX11_passes_35 : decode cX11_passes 35 = .ok (.invokevirtual 253, 3) := by decide +kernel
theorem dX11_passes_38 : decode cX11_passes 38 = .ok (.istore_n 3, 1) := by decide +kernel
theorem dX11_passes_39 : decode cX11_passes 39 = .ok (.aload_n 0, 1) := by decide +kernel
theorem dX11_passes_40 : decode cX11_passes 40 = .ok (.aload_n 0, 1) := by decide +kernel
theorem dX11_passes_41 : decode cX11_passes 41 = .ok (.getfield 44, 3) := by decide +kernel
set_option maxRecDepth 20000 in
theorem ggX11_passes_X7_fault : GoodIn wsX11_passes wsX7_fault := goodIn_r _ [118, 19, 131, 132, 133] rfl (by decide +kernel)
set_option maxRecDepth 20000 in
theorem gX11_passes_X7_fault : GoodIn wsX11_passes (wsV RX11 127 RX7 yX7_fault wsX7_fault) := goodIn_app (goodIn_r _ [115, 116, 117, 12] rfl (by decide +kernel)) ggX11_passes_X7_fault
theorem dX11_passes_44 : decode cX11_passes 44 = .ok (.invokevirtual 127, 3) := by decide +kernel
theorem dX11_passes_47 : decode cX11_passes 47 = .ok (.putfield 90, 3) := by decide +kernel
theorem dX11_passes_50 : decode cX11_passes 50 = .ok (.iload_n 3, 1) := by decide +kernel
theorem dX11_passes_51 : decode cX11_passes 51 = .ok (.ireturn, 1) := by decide +kernel
theorem dX11_harm_0 : decode cX11_harm 0 = .ok (.aload_n 0, 1) := by decide +kernel
theorem dX11_harm_1 : decode cX11_harm 1 = .ok (.iload_n 1, 1) := by decide +kernel
theorem dX11_harm_2 : decode cX11_harm 2 = .ok (.iload_n 2, 1) := by decide +kernel
set_option maxRecDepth 20000 in
theorem ggX11_harm_X11_passes : GoodIn wsX11_harm wsX11_passes := goodIn_r _ [6, 7, 8, 9, 1, 10, 11, 12, 13, 14, 15, 16, 17, 18, 19, 20, 21, 22, 23, 24, 25, 26, 27, 28, 29, 30, 31, 32, 33, 34, 35, 36, 37, 38, 39, 40, 41, 42, 43, 44, 45, 46, 47, 48, 49, 50, 51, 52, 53, 54, 55, 56, 57, 58, 59, 60, 61, 62, 63, 64, 65, 66, 67, 68, 69, 70, 71, 72, 73, 74, 75, 76, 77, 78, 79, 80, 81, 82, 83, 84, 85, 86, 87, 88, 89, 90, 91, 92, 93, 94, 95, 96, 97, 98, 99, 100, 101, 102, 103, 104, 5, 105, 106, 107, 108, 109, 110, 111, 112, 113, 114, 115, 116, 117, 118, 119, 120, 121, 122, 162, 163, 164, 165, 166, 167, 168, 169, 170, 171, 172, 173, 174, 175, 176, 177, 178, 179, 180, 181, 182, 183, 184] rfl (by decide +kernel)
set_option maxRecDepth 20000 in
theorem gX11_harm_X11_passes : GoodIn wsX11_harm (wsV RX11 177 RX11 yX11_passes wsX11_passes) := goodIn_app (goodIn_r _ [2, 3, 4, 5] rfl (by decide +kernel)) ggX11_harm_X11_passes
theorem dX11_harm_3 : decode cX11_harm 3 = .ok (.invokevirtual 177, 3) := by decide +kernel
theorem dX11_harm_6 : decode cX11_harm 6 = .ok (.ifCond .eq 14, 3) := by decide +kernel
theorem dX11_harm_20 : decode cX11_harm 20 = .ok (.iconst (-1), 1) := by decide +kernel
theorem dX11_harm_21 : decode cX11_harm 21 = .ok (.ireturn, 1) := by decide +kernel
theorem dX11_harm_9 : decode cX11_harm 9 = .ok (.aload_n 0, 1) := by decide +kernel
theorem dX11_harm_10 : decode cX11_harm 10 = .ok (.aload_n 0, 1) := by decide +kernel
theorem dX11_harm_11 : decode cX11_harm 11 = .ok (.getfield 37, 3) := by decide +kernel
set_option maxRecDepth 20000 in
theorem ggX11_harm_X11_become : GoodIn wsX11_harm wsX11_become := goodIn_r _ [126, 127, 9, 128, 129, 130, 131, 132, 133, 134, 135, 82, 136, 137, 138, 139, 140, 141, 33, 34, 29, 35, 31, 142, 37, 38, 39, 40, 143, 144, 145, 146, 147, 148, 149, 150, 151, 152, 153, 154, 155, 156, 157, 158, 159, 160, 161, 162, 163, 164, 165, 166, 167, 168, 169, 170, 171, 172, 173, 185, 186, 187, 188, 177, 178, 189, 190, 191, 192, 193, 194, 195, 196, 197, 198, 199, 200, 201, 202, 203, 204, 205, 206, 207, 208] rfl (by decide +kernel)
set_option maxRecDepth 20000 in
theorem gX11_harm_X11_become : GoodIn wsX11_harm (wsV RX11 113 RX11 yX11_become wsX11_become) := goodIn_app (goodIn_r _ [123, 124, 125, 5] rfl (by decide +kernel)) ggX11_harm_X11_become
theorem dX11_harm_14 : decode cX11_harm 14 = .ok (.invokevirtual 113, 3) := by decide +kernel
theorem dX11_harm_17 : decode cX11_harm 17 = .ok (.goto 4, 3) := by decide +kernel
theorem dX11_undo_0 : decode cX11_undo 0 = .ok (.aload_n 0, 1) := by decide +kernel
theorem dX11_undo_1 : decode cX11_undo 1 = .ok (.iload_n 2, 1) := by decide +kernel
theorem dX11_undo_2 : decode cX11_undo 2 = .ok (.iload_n 1, 1) := by decide +kernel
set_option maxRecDepth 20000 in
theorem ggX11_undo_X11_passes : GoodIn wsX11_undo wsX11_passes := goodIn_r _ [6, 7, 8, 9, 1, 10, 11, 12, 13, 14, 15, 16, 17, 18, 19, 20, 21, 22, 23, 24, 25, 26, 27, 28, 29, 30, 31, 32, 33, 34, 35, 36, 37, 38, 39, 40, 41, 42, 43, 44, 45, 46, 47, 48, 49, 50, 51, 52, 53, 54, 55, 56, 57, 58, 59, 60, 61, 62, 63, 64, 65, 66, 67, 68, 69, 70, 71, 72, 73, 74, 75, 76, 77, 78, 79, 80, 81, 82, 83, 84, 85, 86, 87, 88, 89, 90, 91, 92, 93, 94, 95, 96, 97, 98, 99, 100, 101, 102, 103, 104, 5, 105, 106, 107, 108, 109, 110, 111, 112, 113, 114, 115, 116, 117, 118, 119, 120, 121, 122, 162, 163, 164, 165, 166, 167, 168, 169, 170, 171, 172, 173, 174, 175, 176, 177, 178, 179, 180, 181, 182, 183, 184] rfl (by decide +kernel)
set_option maxRecDepth 20000 in
theorem gX11_undo_X11_passes : GoodIn wsX11_undo (wsV RX11 177 RX11 yX11_passes wsX11_passes) := goodIn_app (goodIn_r _ [2, 3, 4, 5] rfl (by decide +kernel)) ggX11_undo_X11_passes
theorem dX11_undo_3 : decode cX11_undo 3 = .ok (.invokevirtual 177, 3) := by decide +kernel
theorem dX11_undo_6 : decode cX11_undo 6 = .ok (.ifCond .eq 14, 3) := by decide +kernel
theorem dX11_undo_20 : decode cX11_undo 20 = .ok (.iconst (-1), 1) := by decide +kernel
theorem dX11_undo_21 : decode cX11_undo 21 = .ok (.ireturn, 1) := by decide +kernel
theorem dX11_undo_9 : decode cX11_undo 9 = .ok (.aload_n 0, 1) := by decide +kernel
theorem dX11_undo_10 : decode cX11_undo 10 = .ok (.aload_n 0, 1) := by decide +kernel
theorem dX11_undo_11 : decode cX11_undo 11 = .ok (.getfield 37, 3) := by decide +kernel
set_option maxRecDepth 20000 in
theorem ggX11_undo_X11_become : GoodIn wsX11_undo wsX11_become := goodIn_r _ [126, 127, 9, 128, 129, 130, 131, 132, 133, 134, 135, 82, 136, 137, 138, 139, 140, 141, 33, 34, 29, 35, 31, 142, 37, 38, 39, 40, 143, 144, 145, 146, 147, 148, 149, 150, 151, 152, 153, 154, 155, 156, 157, 158, 159, 160, 161, 162, 163, 164, 165, 166, 167, 168, 169, 170, 171, 172, 173, 185, 186, 187, 188, 177, 178, 189, 190, 191, 192, 193, 194, 195, 196, 197, 198, 199, 200, 201, 202, 203, 204, 205, 206, 207, 208] rfl (by decide +kernel)
set_option maxRecDepth 20000 in
theorem gX11_undo_X11_become : GoodIn wsX11_undo (wsV RX11 113 RX11 yX11_become wsX11_become) := goodIn_app (goodIn_r _ [123, 124, 125, 5] rfl (by decide +kernel)) ggX11_undo_X11_become
theorem dX11_undo_14 : decode cX11_undo 14 = .ok (.invokevirtual 113, 3) := by decide +kernel
theorem dX11_undo_17 : decode cX11_undo 17 = .ok (.goto 4, 3) := by decide +kernel

end

/-! 59k.harm -/
section
set_option maxHeartbeats 40000000 in
set_option maxRecDepth 100000 in
theorem f_X11_passes (l : Launch) (dC : Nat → ClassId) (dI : Nat → Nat → Nat) (cI cS : ClassId) (sz : Nat) (oX : Nat) (nT : Nat) (nL : Nat) (nM : Nat) (oC : Nat) (oP : Nat) (oH : Nat) (oK : Nat) (oG : Nat) (oR : Nat) (oQ : Nat) (oW : Nat) (aL : Nat) (aM : Nat) (nB : Nat) (aB : Nat) (o4 : Nat) (o5 : Nat) (a41 : Nat) (a42 : Nat) (a43 : Nat) (a51 : Nat) (a52 : Nat) (a53 : Nat) (fa : Int32) (lL : Int32) (fL : Nat → Int32) (lM : Int32) (fM : Nat → Int32) (ft : Int32) (lB : Int32) (fB : Nat → Int32) (l4 : Int32) (f41 : Nat → Int32) (f42 : Nat → Int32) (f43 : Nat → Int32) (l5 : Int32) (f51 : Nat → Int32) (f52 : Nat → Int32) (f53 : Nat → Int32) (a : Int32) (b : Int32) (g_lL : 0 ≤ lL.toInt ∧ lL.toInt ≤ 300) (g_lM : 0 ≤ lM.toInt ∧ lM.toInt ≤ 300) (g_lB : 0 ≤ lB.toInt ∧ lB.toInt ≤ 2400) (hlt : prg lL.toInt 0 65535 fL) (hT4 : HT 512 511 hsT f42 f43) (ho4 : (occ f43 512 : Int) ≤ 511) (hT5 : HT 512 511 hsT f52 f53) (ho5 : (occ f53 512 : Int) ≤ 511) (hL4 : prg 256 (-1) 65535 f41) (hL5 : prg 256 (-1) 65535 f51) (hBr : ∀ cd : Int32, okB (Bc cd f42 f43 f52 f53)) : Met l yX11_passes wsX11_passes ({ frames := 5, cells := 0, slots := 0, locals := 124 } : Room) (va_Pc [.ref oX, .int a, .int b] (fun U => U.heap.size = sz ∧ va_P (dC, dI) vwCl [(oX, .inr (11, [.ref nT, .ref nL, .ref nM, .ref oC, .ref oP, .ref oH, .ref oK, .ref oG, .ref oR, .ref oQ, .ref oW, .int fa])), (nL, .inr (5, [.ref aL, .int lL])), (aL, .inl (cI, 300, .inl fL)), (nM, .inr (5, [.ref aM, .int lM])), (aM, .inl (cI, 300, .inl fM)), (oP, .inr (7, [.ref oC, .ref nB, .int ft])), (nB, .inr (5, [.ref aB, .int lB])), (aB, .inl (cI, 2400, .inl fB)), (oC, .inr (2, [.ref o4, .ref o5])), (o4, .inr (10, [.ref a41, .ref a42, .ref a43, .int l4])), (a41, .inl (cI, 256, .inl f41)), (a42, .inl (cI, 512, .inl f42)), (a43, .inl (cI, 512, .inl f43)), (o5, .inr (10, [.ref a51, .ref a52, .ref a53, .int l5])), (a51, .inl (cI, 256, .inl f51)), (a52, .inl (cI, 512, .inl f52)), (a53, .inl (cI, 512, .inl f53))] U.heap ∧ va_K (dC, dI) vwCl [(cI, .int), (cS, .short)] U ∧ va_D (fun _ => True) [(oX, .inr (11, [.ref nT, .ref nL, .ref nM, .ref oC, .ref oP, .ref oH, .ref oK, .ref oG, .ref oR, .ref oQ, .ref oW, .int fa])), (nL, .inr (5, [.ref aL, .int lL])), (aL, .inl (cI, 300, .inl fL)), (nM, .inr (5, [.ref aM, .int lM])), (aM, .inl (cI, 300, .inl fM)), (oP, .inr (7, [.ref oC, .ref nB, .int ft])), (nB, .inr (5, [.ref aB, .int lB])), (aB, .inl (cI, 2400, .inl fB)), (oC, .inr (2, [.ref o4, .ref o5])), (o4, .inr (10, [.ref a41, .ref a42, .ref a43, .int l4])), (a41, .inl (cI, 256, .inl f41)), (a42, .inl (cI, 512, .inl f42)), (a43, .inl (cI, 512, .inl f43)), (o5, .inr (10, [.ref a51, .ref a52, .ref a53, .int l5])), (a51, .inl (cI, 256, .inl f51)), (a52, .inl (cI, 512, .inl f52)), (a53, .inl (cI, 512, .inl f53))] ∧ va_Nw (.methodLinkNest RX2 52 yX11_isLetter "TextMender") U)) (va_Qi (fun (r : Int32) (u : Int32) => r = u) (fun (r : Int32) t => ∃ (fa' : Int32) (ft' : Int32) (lB' : Int32) (fB' : Nat → Int32) (lM' : Int32) (fM' : Nat → Int32), va_P (dC, dI) vwCl [(oX, .inr (11, [.ref nT, .ref nL, .ref nM, .ref oC, .ref oP, .ref oH, .ref oK, .ref oG, .ref oR, .ref oQ, .ref oW, .int fa'])), (nL, .inr (5, [.ref aL, .int lL])), (aL, .inl (cI, 300, .inl fL)), (nM, .inr (5, [.ref aM, .int lM'])), (aM, .inl (cI, 300, .inl fM')), (oP, .inr (7, [.ref oC, .ref nB, .int ft'])), (nB, .inr (5, [.ref aB, .int lB'])), (aB, .inl (cI, 2400, .inl fB')), (oC, .inr (2, [.ref o4, .ref o5])), (o4, .inr (10, [.ref a41, .ref a42, .ref a43, .int l4])), (a41, .inl (cI, 256, .inl f41)), (a42, .inl (cI, 512, .inl f42)), (a43, .inl (cI, 512, .inl f43)), (o5, .inr (10, [.ref a51, .ref a52, .ref a53, .int l5])), (a51, .inl (cI, 256, .inl f51)), (a52, .inl (cI, 512, .inl f52)), (a53, .inl (cI, 512, .inl f53))] t.heap ∧ va_D (va_A [(oX, .inr (11, [.ref nT, .ref nL, .ref nM, .ref oC, .ref oP, .ref oH, .ref oK, .ref oG, .ref oR, .ref oQ, .ref oW, .int fa])), (nL, .inr (5, [.ref aL, .int lL])), (aL, .inl (cI, 300, .inl fL)), (nM, .inr (5, [.ref aM, .int lM])), (aM, .inl (cI, 300, .inl fM)), (oP, .inr (7, [.ref oC, .ref nB, .int ft])), (nB, .inr (5, [.ref aB, .int lB])), (aB, .inl (cI, 2400, .inl fB)), (oC, .inr (2, [.ref o4, .ref o5])), (o4, .inr (10, [.ref a41, .ref a42, .ref a43, .int l4])), (a41, .inl (cI, 256, .inl f41)), (a42, .inl (cI, 512, .inl f42)), (a43, .inl (cI, 512, .inl f43)), (o5, .inr (10, [.ref a51, .ref a52, .ref a53, .int l5])), (a51, .inl (cI, 256, .inl f51)), (a52, .inl (cI, 512, .inl f52)), (a53, .inl (cI, 512, .inl f53))] sz) [(oX, .inr (11, [.ref nT, .ref nL, .ref nM, .ref oC, .ref oP, .ref oH, .ref oK, .ref oG, .ref oR, .ref oQ, .ref oW, .int fa'])), (nL, .inr (5, [.ref aL, .int lL])), (aL, .inl (cI, 300, .inl fL)), (nM, .inr (5, [.ref aM, .int lM'])), (aM, .inl (cI, 300, .inl fM')), (oP, .inr (7, [.ref oC, .ref nB, .int ft'])), (nB, .inr (5, [.ref aB, .int lB'])), (aB, .inl (cI, 2400, .inl fB')), (oC, .inr (2, [.ref o4, .ref o5])), (o4, .inr (10, [.ref a41, .ref a42, .ref a43, .int l4])), (a41, .inl (cI, 256, .inl f41)), (a42, .inl (cI, 512, .inl f42)), (a43, .inl (cI, 512, .inl f43)), (o5, .inr (10, [.ref a51, .ref a52, .ref a53, .int l5])), (a51, .inl (cI, 256, .inl f51)), (a52, .inl (cI, 512, .inl f52)), (a53, .inl (cI, 512, .inl f53))] ∧ (0 ≤ lB'.toInt ∧ lB'.toInt ≤ 2400) ∧ (0 ≤ lM'.toInt ∧ lM'.toInt ≤ 300) ∧ (0 ≤ r.toInt ∧ r.toInt ≤ 1) ∧ (F_pz r lM' fM' a b f41 f51 (Bc a f42 f43 f52 f53) lL.toInt fL)) (va_A [(oX, .inr (11, [.ref nT, .ref nL, .ref nM, .ref oC, .ref oP, .ref oH, .ref oK, .ref oG, .ref oR, .ref oQ, .ref oW, .int fa])), (nL, .inr (5, [.ref aL, .int lL])), (aL, .inl (cI, 300, .inl fL)), (nM, .inr (5, [.ref aM, .int lM])), (aM, .inl (cI, 300, .inl fM)), (oP, .inr (7, [.ref oC, .ref nB, .int ft])), (nB, .inr (5, [.ref aB, .int lB])), (aB, .inl (cI, 2400, .inl fB)), (oC, .inr (2, [.ref o4, .ref o5])), (o4, .inr (10, [.ref a41, .ref a42, .ref a43, .int l4])), (a41, .inl (cI, 256, .inl f41)), (a42, .inl (cI, 512, .inl f42)), (a43, .inl (cI, 512, .inl f43)), (o5, .inr (10, [.ref a51, .ref a52, .ref a53, .int l5])), (a51, .inl (cI, 256, .inl f51)), (a52, .inl (cI, 512, .inl f52)), (a53, .inl (cI, 512, .inl f53))] sz)) 0 0 (va_A [(oX, .inr (11, [.ref nT, .ref nL, .ref nM, .ref oC, .ref oP, .ref oH, .ref oK, .ref oG, .ref oR, .ref oQ, .ref oW, .int fa])), (nL, .inr (5, [.ref aL, .int lL])), (aL, .inl (cI, 300, .inl fL)), (nM, .inr (5, [.ref aM, .int lM])), (aM, .inl (cI, 300, .inl fM)), (oP, .inr (7, [.ref oC, .ref nB, .int ft])), (nB, .inr (5, [.ref aB, .int lB])), (aB, .inl (cI, 2400, .inl fB)), (oC, .inr (2, [.ref o4, .ref o5])), (o4, .inr (10, [.ref a41, .ref a42, .ref a43, .int l4])), (a41, .inl (cI, 256, .inl f41)), (a42, .inl (cI, 512, .inl f42)), (a43, .inl (cI, 512, .inl f43)), (o5, .inr (10, [.ref a51, .ref a52, .ref a53, .int l5])), (a51, .inl (cI, 256, .inl f51)), (a52, .inl (cI, 512, .inl f52)), (a53, .inl (cI, 512, .inl f53))] sz) := by
  refine Met.ofW (cc := cX11_passes) (maxL := 4) (ret := (some .boolean)) (by decide) rfl ?_
  intro p e s m args below meth c s₁ B hml hv
  obtain ⟨rfl, hsz, hP, hK, hD0, hN52⟩ := hv
  have hx := B.exec
  have hb := B.bytes
  have hr := B.returns
  have hts := atoms_spec (ws := wsX11_passes) B.pre
  have hown : s.vm.findClass RX11 = some m.cls := findClass_of_methodNamed B.named
  have hlocks := B.notSynchronized
  have in_X11 : ∀ w ∈ wsX110, w ∈ wsX11_passes := fun _ h => List.mem_cons_of_mem _ (List.mem_append_left _ (List.mem_append_left _ (List.mem_append_left _ (List.mem_append_left _ (List.mem_append_right _ (h))))))
  subst hsz
  have hD := hD0.self (sz := s.heap.size)
  generalize hAe : va_A [(oX, .inr (11, [.ref nT, .ref nL, .ref nM, .ref oC, .ref oP, .ref oH, .ref oK, .ref oG, .ref oR, .ref oQ, .ref oW, .int fa])), (nL, .inr (5, [.ref aL, .int lL])), (aL, .inl (cI, 300, .inl fL)), (nM, .inr (5, [.ref aM, .int lM])), (aM, .inl (cI, 300, .inl fM)), (oP, .inr (7, [.ref oC, .ref nB, .int ft])), (nB, .inr (5, [.ref aB, .int lB])), (aB, .inl (cI, 2400, .inl fB)), (oC, .inr (2, [.ref o4, .ref o5])), (o4, .inr (10, [.ref a41, .ref a42, .ref a43, .int l4])), (a41, .inl (cI, 256, .inl f41)), (a42, .inl (cI, 512, .inl f42)), (a43, .inl (cI, 512, .inl f43)), (o5, .inr (10, [.ref a51, .ref a52, .ref a53, .int l5])), (a51, .inl (cI, 256, .inl f51)), (a52, .inl (cI, 512, .inl f52)), (a53, .inl (cI, 512, .inl f53))] s.heap.size = A at hD ⊢
  have hA : ∀ q : Nat, s.heap.size ≤ q → A q := fun q h => by rw [← hAe]; exact Or.inr h
  have hS : va_S A s.heap s.heap [] := va_S.rf
  have hP : va_P (dC, dI) vwCl [(oX, .inr (11, [.ref nT, .ref nL, .ref nM, .ref oC, .ref oP, .ref oH, .ref oK, .ref oG, .ref oR, .ref oQ, .ref oW, .int fa])), (nL, .inr (5, [.ref aL, .int lL])), (aL, .inl (cI, 300, .inl fL)), (nM, .inr (5, [.ref aM, .int lM])), (aM, .inl (cI, 300, .inl fM)), (oP, .inr (7, [.ref oC, .ref nB, .int ft])), (nB, .inr (5, [.ref aB, .int lB])), (aB, .inl (cI, 2400, .inl fB)), (oC, .inr (2, [.ref o4, .ref o5])), (o4, .inr (10, [.ref a41, .ref a42, .ref a43, .int l4])), (a41, .inl (cI, 256, .inl f41)), (a42, .inl (cI, 512, .inl f42)), (a43, .inl (cI, 512, .inl f43)), (o5, .inr (10, [.ref a51, .ref a52, .ref a53, .int l5])), (a51, .inl (cI, 256, .inl f51)), (a52, .inl (cI, 512, .inl f52)), (a53, .inl (cI, 512, .inl f53))] s.heap := hP
  have hl := lv_entry ([.ref oX, .int a, .int b]) (n := 4) (Nat.le_of_ble_eq_true rfl)
  rw [lg_entry_eq]
  generalize (lg_sl ([.ref oX, .int a, .int b]) ++ List.replicate (4 - (lg_sl ([.ref oX, .int a, .int b])).length) Slot.unset).toArray = ls at hl ⊢
  have hl : lv_has ls 4 [(0, .ref oX), (1, .int a), (2, .int b)] := hl
  obtain ⟨QQ, hQQ⟩ : ∃ QQ : Array Value → State → Outcome → State → Prop, QQ = va_Qi (fun (r : Int32) (u : Int32) => r = u) (fun (r : Int32) t => ∃ (fa' : Int32) (ft' : Int32) (lB' : Int32) (fB' : Nat → Int32) (lM' : Int32) (fM' : Nat → Int32), va_P (dC, dI) vwCl [(oX, .inr (11, [.ref nT, .ref nL, .ref nM, .ref oC, .ref oP, .ref oH, .ref oK, .ref oG, .ref oR, .ref oQ, .ref oW, .int fa'])), (nL, .inr (5, [.ref aL, .int lL])), (aL, .inl (cI, 300, .inl fL)), (nM, .inr (5, [.ref aM, .int lM'])), (aM, .inl (cI, 300, .inl fM')), (oP, .inr (7, [.ref oC, .ref nB, .int ft'])), (nB, .inr (5, [.ref aB, .int lB'])), (aB, .inl (cI, 2400, .inl fB')), (oC, .inr (2, [.ref o4, .ref o5])), (o4, .inr (10, [.ref a41, .ref a42, .ref a43, .int l4])), (a41, .inl (cI, 256, .inl f41)), (a42, .inl (cI, 512, .inl f42)), (a43, .inl (cI, 512, .inl f43)), (o5, .inr (10, [.ref a51, .ref a52, .ref a53, .int l5])), (a51, .inl (cI, 256, .inl f51)), (a52, .inl (cI, 512, .inl f52)), (a53, .inl (cI, 512, .inl f53))] t.heap ∧ va_D A [(oX, .inr (11, [.ref nT, .ref nL, .ref nM, .ref oC, .ref oP, .ref oH, .ref oK, .ref oG, .ref oR, .ref oQ, .ref oW, .int fa'])), (nL, .inr (5, [.ref aL, .int lL])), (aL, .inl (cI, 300, .inl fL)), (nM, .inr (5, [.ref aM, .int lM'])), (aM, .inl (cI, 300, .inl fM')), (oP, .inr (7, [.ref oC, .ref nB, .int ft'])), (nB, .inr (5, [.ref aB, .int lB'])), (aB, .inl (cI, 2400, .inl fB')), (oC, .inr (2, [.ref o4, .ref o5])), (o4, .inr (10, [.ref a41, .ref a42, .ref a43, .int l4])), (a41, .inl (cI, 256, .inl f41)), (a42, .inl (cI, 512, .inl f42)), (a43, .inl (cI, 512, .inl f43)), (o5, .inr (10, [.ref a51, .ref a52, .ref a53, .int l5])), (a51, .inl (cI, 256, .inl f51)), (a52, .inl (cI, 512, .inl f52)), (a53, .inl (cI, 512, .inl f53))] ∧ (0 ≤ lB'.toInt ∧ lB'.toInt ≤ 2400) ∧ (0 ≤ lM'.toInt ∧ lM'.toInt ≤ 300) ∧ (0 ≤ r.toInt ∧ r.toInt ≤ 1) ∧ (F_pz r lM' fM' a b f41 f51 (Bc a f42 f43 f52 f53) lL.toInt fL)) A := ⟨_, rfl⟩
  rw [← hQQ]
  refine lv_aload_n hx hb dX11_passes_0 rfl (lv_at hl 0 rfl) ?_
  refine lv_iconst (v := (-1)) hx hb dX11_passes_1 (by decide) ?_
  refine va_put (D := (dC, dI)) (ci := 11) (v := .int (-1)) (ty := .int) (C := RX11) (T := TX11) (N := 12) hx hb hts in_X11 tyX11 tyX11_ok nmX11 hown hK hP hD hS 0 rfl rfl 11 (by decide) (hts (.fieldLink RX11 90 "TextMender" "fault" "I") (List.mem_of_getElem? (i := 1) rfl)) (fun _ h9 => h9) rfl (by decide +kernel) rfl rfl (Nat.le_of_ble_eq_true rfl) dX11_passes_2 (fun H locs hPn hDn hSn => ?_)
  clear hP hD hS
  have hP : va_P (dC, dI) vwCl [(oX, .inr (11, [.ref nT, .ref nL, .ref nM, .ref oC, .ref oP, .ref oH, .ref oK, .ref oG, .ref oR, .ref oQ, .ref oW, .int (-1)])), (nL, .inr (5, [.ref aL, .int lL])), (aL, .inl (cI, 300, .inl fL)), (nM, .inr (5, [.ref aM, .int lM])), (aM, .inl (cI, 300, .inl fM)), (oP, .inr (7, [.ref oC, .ref nB, .int ft])), (nB, .inr (5, [.ref aB, .int lB])), (aB, .inl (cI, 2400, .inl fB)), (oC, .inr (2, [.ref o4, .ref o5])), (o4, .inr (10, [.ref a41, .ref a42, .ref a43, .int l4])), (a41, .inl (cI, 256, .inl f41)), (a42, .inl (cI, 512, .inl f42)), (a43, .inl (cI, 512, .inl f43)), (o5, .inr (10, [.ref a51, .ref a52, .ref a53, .int l5])), (a51, .inl (cI, 256, .inl f51)), (a52, .inl (cI, 512, .inl f52)), (a53, .inl (cI, 512, .inl f53))] H := hPn
  have hD : va_D A [(oX, .inr (11, [.ref nT, .ref nL, .ref nM, .ref oC, .ref oP, .ref oH, .ref oK, .ref oG, .ref oR, .ref oQ, .ref oW, .int (-1)])), (nL, .inr (5, [.ref aL, .int lL])), (aL, .inl (cI, 300, .inl fL)), (nM, .inr (5, [.ref aM, .int lM])), (aM, .inl (cI, 300, .inl fM)), (oP, .inr (7, [.ref oC, .ref nB, .int ft])), (nB, .inr (5, [.ref aB, .int lB])), (aB, .inl (cI, 2400, .inl fB)), (oC, .inr (2, [.ref o4, .ref o5])), (o4, .inr (10, [.ref a41, .ref a42, .ref a43, .int l4])), (a41, .inl (cI, 256, .inl f41)), (a42, .inl (cI, 512, .inl f42)), (a43, .inl (cI, 512, .inl f43)), (o5, .inr (10, [.ref a51, .ref a52, .ref a53, .int l5])), (a51, .inl (cI, 256, .inl f51)), (a52, .inl (cI, 512, .inl f52)), (a53, .inl (cI, 512, .inl f53))] := hDn
  have hS := hSn
  clear hPn hDn hSn
  refine lv_iload_n hx hb dX11_passes_5 rfl (lv_at hl 1 rfl) ?_
  have hPc := hP.sub (ws' := []) [] rfl
  have hDc := hD.sub (ws' := []) [] (by decide +kernel) rfl
  have hFc := va_free (wc := []) hD hS hA [] rfl
  refine va_calli (va_runS (As := [.int a]) (rest := []) ⟨hx, hb, hml, hown, hts⟩ (m_X2_known l dC dI cI cS H.size a ) (va_cwS 1 hts gX11_passes_X2_known rfl rfl rfl (by decide +kernel) ⟨Nat.le_of_ble_eq_true rfl, Nat.le_of_ble_eq_true rfl⟩) ⟨fun a U g mk q => by obtain ⟨q0, q1, qP, qK, qD⟩ := q; exact ⟨q0, q1, qP, va_K.moved (u := U) (U := U.calling g mk a) (Vm.Alike.refl U.vm) qK, qD⟩, fun U hU hW => ⟨rfl, by rw [hU], by rw [hU]; exact hPc, va_K.moved hW.alike hK, hDc.weaken (fun _ _ _ _ => trivial)⟩⟩ rfl rfl hl.1 rfl (lv_room (Nat.le_of_ble_eq_true rfl)) dX11_passes_6 ⟨Nat.le_of_ble_eq_true rfl, Nat.le_of_ble_eq_true rfl⟩) hS (fun q _ h => hFc q h) hFc (fun r_1 u t H1 locs ht hvm hw hB hz1 hk1 hSn => ?_)
  subst hw
  obtain ⟨hP1, hD1, hf1_0, hf1_1⟩ := hB
  rw [ht] at hP1
  obtain ⟨hPn, hDn⟩ := va_join (wr := [(oX, .inr (11, [.ref nT, .ref nL, .ref nM, .ref oC, .ref oP, .ref oH, .ref oK, .ref oG, .ref oR, .ref oQ, .ref oW, .int (-1)])), (nL, .inr (5, [.ref aL, .int lL])), (aL, .inl (cI, 300, .inl fL)), (nM, .inr (5, [.ref aM, .int lM])), (aM, .inl (cI, 300, .inl fM)), (oP, .inr (7, [.ref oC, .ref nB, .int ft])), (nB, .inr (5, [.ref aB, .int lB])), (aB, .inl (cI, 2400, .inl fB)), (oC, .inr (2, [.ref o4, .ref o5])), (o4, .inr (10, [.ref a41, .ref a42, .ref a43, .int l4])), (a41, .inl (cI, 256, .inl f41)), (a42, .inl (cI, 512, .inl f42)), (a43, .inl (cI, 512, .inl f43)), (o5, .inr (10, [.ref a51, .ref a52, .ref a53, .int l5])), (a51, .inl (cI, 256, .inl f51)), (a52, .inl (cI, 512, .inl f52)), (a53, .inl (cI, 512, .inl f53))]) (w1 := []) hP hD [] [0, 1, 2, 3, 4, 5, 6, 7, 8, 9, 10, 11, 12, 13, 14, 15, 16] rfl rfl (by decide +kernel) (by decide +kernel) hk1 hFc hP1 hD1
  clear hP hD hS hPc hDc hFc hk1 hz1 hvm ht hP1 hD1
  generalize H1 = H at hPn hSn ⊢
  have hP : va_P (dC, dI) vwCl [(oX, .inr (11, [.ref nT, .ref nL, .ref nM, .ref oC, .ref oP, .ref oH, .ref oK, .ref oG, .ref oR, .ref oQ, .ref oW, .int (-1)])), (nL, .inr (5, [.ref aL, .int lL])), (aL, .inl (cI, 300, .inl fL)), (nM, .inr (5, [.ref aM, .int lM])), (aM, .inl (cI, 300, .inl fM)), (oP, .inr (7, [.ref oC, .ref nB, .int ft])), (nB, .inr (5, [.ref aB, .int lB])), (aB, .inl (cI, 2400, .inl fB)), (oC, .inr (2, [.ref o4, .ref o5])), (o4, .inr (10, [.ref a41, .ref a42, .ref a43, .int l4])), (a41, .inl (cI, 256, .inl f41)), (a42, .inl (cI, 512, .inl f42)), (a43, .inl (cI, 512, .inl f43)), (o5, .inr (10, [.ref a51, .ref a52, .ref a53, .int l5])), (a51, .inl (cI, 256, .inl f51)), (a52, .inl (cI, 512, .inl f52)), (a53, .inl (cI, 512, .inl f53))] H := hPn
  have hD : va_D A [(oX, .inr (11, [.ref nT, .ref nL, .ref nM, .ref oC, .ref oP, .ref oH, .ref oK, .ref oG, .ref oR, .ref oQ, .ref oW, .int (-1)])), (nL, .inr (5, [.ref aL, .int lL])), (aL, .inl (cI, 300, .inl fL)), (nM, .inr (5, [.ref aM, .int lM])), (aM, .inl (cI, 300, .inl fM)), (oP, .inr (7, [.ref oC, .ref nB, .int ft])), (nB, .inr (5, [.ref aB, .int lB])), (aB, .inl (cI, 2400, .inl fB)), (oC, .inr (2, [.ref o4, .ref o5])), (o4, .inr (10, [.ref a41, .ref a42, .ref a43, .int l4])), (a41, .inl (cI, 256, .inl f41)), (a42, .inl (cI, 512, .inl f42)), (a43, .inl (cI, 512, .inl f43)), (o5, .inr (10, [.ref a51, .ref a52, .ref a53, .int l5])), (a51, .inl (cI, 256, .inl f51)), (a52, .inl (cI, 512, .inl f52)), (a53, .inl (cI, 512, .inl f53))] := hDn
  have hS := hSn
  clear hPn hDn hSn
  refine lv_if_eq (tgt := 19) hx hb dX11_passes_9 (by decide) (fun c_2 => ?_) (fun c_2 => ?_)
  · have tc_2 : r_1.toInt = 0 := v_eq c_2
    refine lv_iconst (v := 0) hx hb dX11_passes_19 (by decide) ?_
    have hP9 := hP.sub (ws' := [(oX, .inr (11, [.ref nT, .ref nL, .ref nM, .ref oC, .ref oP, .ref oH, .ref oK, .ref oG, .ref oR, .ref oQ, .ref oW, .int (-1)])), (nL, .inr (5, [.ref aL, .int lL])), (aL, .inl (cI, 300, .inl fL)), (nM, .inr (5, [.ref aM, .int lM])), (aM, .inl (cI, 300, .inl fM)), (oP, .inr (7, [.ref oC, .ref nB, .int ft])), (nB, .inr (5, [.ref aB, .int lB])), (aB, .inl (cI, 2400, .inl fB)), (oC, .inr (2, [.ref o4, .ref o5])), (o4, .inr (10, [.ref a41, .ref a42, .ref a43, .int l4])), (a41, .inl (cI, 256, .inl f41)), (a42, .inl (cI, 512, .inl f42)), (a43, .inl (cI, 512, .inl f43)), (o5, .inr (10, [.ref a51, .ref a52, .ref a53, .int l5])), (a51, .inl (cI, 256, .inl f51)), (a52, .inl (cI, 512, .inl f52)), (a53, .inl (cI, 512, .inl f53))]) [0, 1, 2, 3, 4, 5, 6, 7, 8, 9, 10, 11, 12, 13, 14, 15, 16] rfl
    have hD9 := hD.sub (ws' := [(oX, .inr (11, [.ref nT, .ref nL, .ref nM, .ref oC, .ref oP, .ref oH, .ref oK, .ref oG, .ref oR, .ref oQ, .ref oW, .int (-1)])), (nL, .inr (5, [.ref aL, .int lL])), (aL, .inl (cI, 300, .inl fL)), (nM, .inr (5, [.ref aM, .int lM])), (aM, .inl (cI, 300, .inl fM)), (oP, .inr (7, [.ref oC, .ref nB, .int ft])), (nB, .inr (5, [.ref aB, .int lB])), (aB, .inl (cI, 2400, .inl fB)), (oC, .inr (2, [.ref o4, .ref o5])), (o4, .inr (10, [.ref a41, .ref a42, .ref a43, .int l4])), (a41, .inl (cI, 256, .inl f41)), (a42, .inl (cI, 512, .inl f42)), (a43, .inl (cI, 512, .inl f43)), (o5, .inr (10, [.ref a51, .ref a52, .ref a53, .int l5])), (a51, .inl (cI, 256, .inl f51)), (a52, .inl (cI, 512, .inl f52)), (a53, .inl (cI, 512, .inl f53))]) [0, 1, 2, 3, 4, 5, 6, 7, 8, 9, 10, 11, 12, 13, 14, 15, 16] (by decide +kernel) rfl
    rw [hQQ]
    exact W.zret (v := 0) (ty := .boolean) hx hb hr (rfl) (fun t ht hW => ⟨⟨0, 0, rfl, rfl, ⟨(-1), ft, lB, fB, lM, fM, by rw [ht]; exact hP9, hD9, g_lB, g_lM, by decide, Or.inr ⟨rfl, by unfold okd; omega⟩⟩⟩, hS.F ht⟩) hS.2.2 dX11_passes_20
  · have tc_2 : ¬ r_1.toInt = 0 := v_ne c_2
    refine lv_iload_n hx hb dX11_passes_12 rfl (lv_at hl 2 rfl) ?_
    have hPc := hP.sub (ws' := []) [] rfl
    have hDc := hD.sub (ws' := []) [] (by decide +kernel) rfl
    have hFc := va_free (wc := []) hD hS hA [] rfl
    refine va_calli (va_runS (As := [.int b]) (rest := []) ⟨hx, hb, hml, hown, hts⟩ (m_X2_known l dC dI cI cS H.size b ) (va_cwS 1 hts gX11_passes_X2_known rfl rfl rfl (by decide +kernel) ⟨Nat.le_of_ble_eq_true rfl, Nat.le_of_ble_eq_true rfl⟩) ⟨fun a U g mk q => by obtain ⟨q0, q1, qP, qK, qD⟩ := q; exact ⟨q0, q1, qP, va_K.moved (u := U) (U := U.calling g mk a) (Vm.Alike.refl U.vm) qK, qD⟩, fun U hU hW => ⟨rfl, by rw [hU], by rw [hU]; exact hPc, va_K.moved hW.alike hK, hDc.weaken (fun _ _ _ _ => trivial)⟩⟩ rfl rfl hl.1 rfl (lv_room (Nat.le_of_ble_eq_true rfl)) dX11_passes_13 ⟨Nat.le_of_ble_eq_true rfl, Nat.le_of_ble_eq_true rfl⟩) hS (fun q _ h => hFc q h) hFc (fun r_3 u t H1 locs ht hvm hw hB hz1 hk1 hSn => ?_)
    subst hw
    obtain ⟨hP1, hD1, hf3_0, hf3_1⟩ := hB
    rw [ht] at hP1
    obtain ⟨hPn, hDn⟩ := va_join (wr := [(oX, .inr (11, [.ref nT, .ref nL, .ref nM, .ref oC, .ref oP, .ref oH, .ref oK, .ref oG, .ref oR, .ref oQ, .ref oW, .int (-1)])), (nL, .inr (5, [.ref aL, .int lL])), (aL, .inl (cI, 300, .inl fL)), (nM, .inr (5, [.ref aM, .int lM])), (aM, .inl (cI, 300, .inl fM)), (oP, .inr (7, [.ref oC, .ref nB, .int ft])), (nB, .inr (5, [.ref aB, .int lB])), (aB, .inl (cI, 2400, .inl fB)), (oC, .inr (2, [.ref o4, .ref o5])), (o4, .inr (10, [.ref a41, .ref a42, .ref a43, .int l4])), (a41, .inl (cI, 256, .inl f41)), (a42, .inl (cI, 512, .inl f42)), (a43, .inl (cI, 512, .inl f43)), (o5, .inr (10, [.ref a51, .ref a52, .ref a53, .int l5])), (a51, .inl (cI, 256, .inl f51)), (a52, .inl (cI, 512, .inl f52)), (a53, .inl (cI, 512, .inl f53))]) (w1 := []) hP hD [] [0, 1, 2, 3, 4, 5, 6, 7, 8, 9, 10, 11, 12, 13, 14, 15, 16] rfl rfl (by decide +kernel) (by decide +kernel) hk1 hFc hP1 hD1
    clear hP hD hS hPc hDc hFc hk1 hz1 hvm ht hP1 hD1
    generalize H1 = H at hPn hSn ⊢
    have hP : va_P (dC, dI) vwCl [(oX, .inr (11, [.ref nT, .ref nL, .ref nM, .ref oC, .ref oP, .ref oH, .ref oK, .ref oG, .ref oR, .ref oQ, .ref oW, .int (-1)])), (nL, .inr (5, [.ref aL, .int lL])), (aL, .inl (cI, 300, .inl fL)), (nM, .inr (5, [.ref aM, .int lM])), (aM, .inl (cI, 300, .inl fM)), (oP, .inr (7, [.ref oC, .ref nB, .int ft])), (nB, .inr (5, [.ref aB, .int lB])), (aB, .inl (cI, 2400, .inl fB)), (oC, .inr (2, [.ref o4, .ref o5])), (o4, .inr (10, [.ref a41, .ref a42, .ref a43, .int l4])), (a41, .inl (cI, 256, .inl f41)), (a42, .inl (cI, 512, .inl f42)), (a43, .inl (cI, 512, .inl f43)), (o5, .inr (10, [.ref a51, .ref a52, .ref a53, .int l5])), (a51, .inl (cI, 256, .inl f51)), (a52, .inl (cI, 512, .inl f52)), (a53, .inl (cI, 512, .inl f53))] H := hPn
    have hD : va_D A [(oX, .inr (11, [.ref nT, .ref nL, .ref nM, .ref oC, .ref oP, .ref oH, .ref oK, .ref oG, .ref oR, .ref oQ, .ref oW, .int (-1)])), (nL, .inr (5, [.ref aL, .int lL])), (aL, .inl (cI, 300, .inl fL)), (nM, .inr (5, [.ref aM, .int lM])), (aM, .inl (cI, 300, .inl fM)), (oP, .inr (7, [.ref oC, .ref nB, .int ft])), (nB, .inr (5, [.ref aB, .int lB])), (aB, .inl (cI, 2400, .inl fB)), (oC, .inr (2, [.ref o4, .ref o5])), (o4, .inr (10, [.ref a41, .ref a42, .ref a43, .int l4])), (a41, .inl (cI, 256, .inl f41)), (a42, .inl (cI, 512, .inl f42)), (a43, .inl (cI, 512, .inl f43)), (o5, .inr (10, [.ref a51, .ref a52, .ref a53, .int l5])), (a51, .inl (cI, 256, .inl f51)), (a52, .inl (cI, 512, .inl f52)), (a53, .inl (cI, 512, .inl f53))] := hDn
    have hS := hSn
    clear hPn hDn hSn
    refine lv_if_ne (tgt := 21) hx hb dX11_passes_16 (by decide) (fun c_4 => ?_) (fun c_4 => ?_)
    · have tc_4 : ¬ r_3.toInt = 0 := v_ne c_4
      refine lv_aload_n hx hb dX11_passes_21 rfl (lv_at hl 0 rfl) ?_
      refine va_get (D := (dC, dI)) (ci := 11) (v := .ref oP) (C := RX11) (T := TX11) (N := 12) hx hb hts in_X11 hown hK hP 0 rfl rfl 4 (by decide) (hts (.fieldLink RX11 44 "TextMender" "passage" "LTextMender$Passage;") (List.mem_of_getElem? (i := 2) rfl)) (fun _ h9 => h9) rfl dX11_passes_22 ?_
      refine lv_iload_n hx hb dX11_passes_25 rfl (lv_at hl 1 rfl) ?_
      refine lv_iload_n hx hb dX11_passes_26 rfl (lv_at hl 2 rfl) ?_
      refine lv_aload_n hx hb dX11_passes_27 rfl (lv_at hl 0 rfl) ?_
      refine va_get (D := (dC, dI)) (ci := 11) (v := .ref nL) (C := RX11) (T := TX11) (N := 12) hx hb hts in_X11 hown hK hP 0 rfl rfl 1 (by decide) (hts (.fieldLink RX11 34 "TextMender" "letters" "LTextMender$Numbers;") (List.mem_of_getElem? (i := 3) rfl)) (fun _ h9 => h9) rfl dX11_passes_28 ?_
      refine lv_aload_n hx hb dX11_passes_31 rfl (lv_at hl 0 rfl) ?_
      refine va_get (D := (dC, dI)) (ci := 11) (v := .ref nM) (C := RX11) (T := TX11) (N := 12) hx hb hts in_X11 hown hK hP 0 rfl rfl 2 (by decide) (hts (.fieldLink RX11 37 "TextMender" "made" "LTextMender$Numbers;") (List.mem_of_getElem? (i := 4) rfl)) (fun _ h9 => h9) rfl dX11_passes_32 ?_
      have hPc := hP.sub (ws' := [(oP, .inr (7, [.ref oC, .ref nB, .int ft])), (nB, .inr (5, [.ref aB, .int lB])), (aB, .inl (cI, 2400, .inl fB)), (nL, .inr (5, [.ref aL, .int lL])), (aL, .inl (cI, 300, .inl fL)), (nM, .inr (5, [.ref aM, .int lM])), (aM, .inl (cI, 300, .inl fM)), (oC, .inr (2, [.ref o4, .ref o5])), (o4, .inr (10, [.ref a41, .ref a42, .ref a43, .int l4])), (a41, .inl (cI, 256, .inl f41)), (a42, .inl (cI, 512, .inl f42)), (a43, .inl (cI, 512, .inl f43)), (o5, .inr (10, [.ref a51, .ref a52, .ref a53, .int l5])), (a51, .inl (cI, 256, .inl f51)), (a52, .inl (cI, 512, .inl f52)), (a53, .inl (cI, 512, .inl f53))]) [5, 6, 7, 1, 2, 3, 4, 8, 9, 10, 11, 12, 13, 14, 15, 16] rfl
      have hDc := hD.sub (ws' := [(oP, .inr (7, [.ref oC, .ref nB, .int ft])), (nB, .inr (5, [.ref aB, .int lB])), (aB, .inl (cI, 2400, .inl fB)), (nL, .inr (5, [.ref aL, .int lL])), (aL, .inl (cI, 300, .inl fL)), (nM, .inr (5, [.ref aM, .int lM])), (aM, .inl (cI, 300, .inl fM)), (oC, .inr (2, [.ref o4, .ref o5])), (o4, .inr (10, [.ref a41, .ref a42, .ref a43, .int l4])), (a41, .inl (cI, 256, .inl f41)), (a42, .inl (cI, 512, .inl f42)), (a43, .inl (cI, 512, .inl f43)), (o5, .inr (10, [.ref a51, .ref a52, .ref a53, .int l5])), (a51, .inl (cI, 256, .inl f51)), (a52, .inl (cI, 512, .inl f52)), (a53, .inl (cI, 512, .inl f53))]) [5, 6, 7, 1, 2, 3, 4, 8, 9, 10, 11, 12, 13, 14, 15, 16] (by decide +kernel) rfl
      have hFc := va_free (wc := [(oP, .inr (7, [.ref oC, .ref nB, .int ft])), (nB, .inr (5, [.ref aB, .int lB])), (aB, .inl (cI, 2400, .inl fB)), (nL, .inr (5, [.ref aL, .int lL])), (aL, .inl (cI, 300, .inl fL)), (nM, .inr (5, [.ref aM, .int lM])), (aM, .inl (cI, 300, .inl fM)), (oC, .inr (2, [.ref o4, .ref o5])), (o4, .inr (10, [.ref a41, .ref a42, .ref a43, .int l4])), (a41, .inl (cI, 256, .inl f41)), (a42, .inl (cI, 512, .inl f42)), (a43, .inl (cI, 512, .inl f43)), (o5, .inr (10, [.ref a51, .ref a52, .ref a53, .int l5])), (a51, .inl (cI, 256, .inl f51)), (a52, .inl (cI, 512, .inl f52)), (a53, .inl (cI, 512, .inl f53))]) hD hS hA [5, 6, 7, 1, 2, 3, 4, 8, 9, 10, 11, 12, 13, 14, 15, 16] rfl
      refine va_calli (va_runV (As := [.int a, .int b, .ref nL, .ref nM]) (rest := []) ⟨hx, hb, hml, hown, hts⟩ (f_X7_pass l dC dI cI cS H.size oP nL nM oC nB aB aL aM o4 o5 a41 a42 a43 a51 a52 a53 ft lB fB lL fL lM fM l4 f41 f42 f43 l5 f51 f52 f53 a b (g_lB) (g_lL) (g_lM) (hlt) (hT4) (by omega) (hT5) (by omega) (hL4) (hL5) (hBr a)) (cwV 4 hts gX11_passes_X7_pass rfl rfl rfl (by decide +kernel) ⟨Nat.le_of_ble_eq_true rfl, Nat.le_of_ble_eq_true rfl⟩) ⟨fun a U g mk q => by obtain ⟨q0, q1, qP, qK, qD, qN0⟩ := q; exact ⟨q0, q1, qP, va_K.moved (u := U) (U := U.calling g mk a) (Vm.Alike.refl U.vm) qK, qD, va_Nw.same rfl rfl qN0⟩, va_recv hK hPc (ci := 7) (q0 := 0) rfl rfl, fun U hU hW => ⟨rfl, by rw [hU], by rw [hU]; exact hPc, va_K.moved hW.alike hK, hDc.weaken (fun _ _ _ _ => trivial), va_Nw.warmM hW hN52⟩⟩ rfl rfl hl.1 rfl (lv_room (Nat.le_of_ble_eq_true rfl)) dX11_passes_35 ⟨Nat.le_of_ble_eq_true rfl, Nat.le_of_ble_eq_true rfl⟩) hS (fun q _ h => hFc q h) hFc (fun r_5 u t H1 locs ht hvm hw hB hz1 hk1 hSn => ?_)
      subst hw
      obtain ⟨ft_5, lB_5, fB_5, ld_5, fd_5, hP1, hD1, hf5_0, hf5_1, hf5_2, hf5_3⟩ := hB
      rw [ht] at hP1
      obtain ⟨hPn, hDn⟩ := va_join (wr := [(oX, .inr (11, [.ref nT, .ref nL, .ref nM, .ref oC, .ref oP, .ref oH, .ref oK, .ref oG, .ref oR, .ref oQ, .ref oW, .int (-1)]))]) (w1 := [(oP, .inr (7, [.ref oC, .ref nB, .int ft_5])), (nB, .inr (5, [.ref aB, .int lB_5])), (aB, .inl (cI, 2400, .inl fB_5)), (nL, .inr (5, [.ref aL, .int lL])), (aL, .inl (cI, 300, .inl fL)), (nM, .inr (5, [.ref aM, .int ld_5])), (aM, .inl (cI, 300, .inl fd_5)), (oC, .inr (2, [.ref o4, .ref o5])), (o4, .inr (10, [.ref a41, .ref a42, .ref a43, .int l4])), (a41, .inl (cI, 256, .inl f41)), (a42, .inl (cI, 512, .inl f42)), (a43, .inl (cI, 512, .inl f43)), (o5, .inr (10, [.ref a51, .ref a52, .ref a53, .int l5])), (a51, .inl (cI, 256, .inl f51)), (a52, .inl (cI, 512, .inl f52)), (a53, .inl (cI, 512, .inl f53))]) hP hD [5, 6, 7, 1, 2, 3, 4, 8, 9, 10, 11, 12, 13, 14, 15, 16] [0] rfl rfl (by decide +kernel) (by decide +kernel) hk1 hFc hP1 hD1
      clear hP hD hS hPc hDc hFc hk1 hz1 hvm ht hP1 hD1
      generalize H1 = H at hPn hSn ⊢
      have hP : va_P (dC, dI) vwCl [(oX, .inr (11, [.ref nT, .ref nL, .ref nM, .ref oC, .ref oP, .ref oH, .ref oK, .ref oG, .ref oR, .ref oQ, .ref oW, .int (-1)])), (oP, .inr (7, [.ref oC, .ref nB, .int ft_5])), (nB, .inr (5, [.ref aB, .int lB_5])), (aB, .inl (cI, 2400, .inl fB_5)), (nL, .inr (5, [.ref aL, .int lL])), (aL, .inl (cI, 300, .inl fL)), (nM, .inr (5, [.ref aM, .int ld_5])), (aM, .inl (cI, 300, .inl fd_5)), (oC, .inr (2, [.ref o4, .ref o5])), (o4, .inr (10, [.ref a41, .ref a42, .ref a43, .int l4])), (a41, .inl (cI, 256, .inl f41)), (a42, .inl (cI, 512, .inl f42)), (a43, .inl (cI, 512, .inl f43)), (o5, .inr (10, [.ref a51, .ref a52, .ref a53, .int l5])), (a51, .inl (cI, 256, .inl f51)), (a52, .inl (cI, 512, .inl f52)), (a53, .inl (cI, 512, .inl f53))] H := hPn
      have hD : va_D A [(oX, .inr (11, [.ref nT, .ref nL, .ref nM, .ref oC, .ref oP, .ref oH, .ref oK, .ref oG, .ref oR, .ref oQ, .ref oW, .int (-1)])), (oP, .inr (7, [.ref oC, .ref nB, .int ft_5])), (nB, .inr (5, [.ref aB, .int lB_5])), (aB, .inl (cI, 2400, .inl fB_5)), (nL, .inr (5, [.ref aL, .int lL])), (aL, .inl (cI, 300, .inl fL)), (nM, .inr (5, [.ref aM, .int ld_5])), (aM, .inl (cI, 300, .inl fd_5)), (oC, .inr (2, [.ref o4, .ref o5])), (o4, .inr (10, [.ref a41, .ref a42, .ref a43, .int l4])), (a41, .inl (cI, 256, .inl f41)), (a42, .inl (cI, 512, .inl f42)), (a43, .inl (cI, 512, .inl f43)), (o5, .inr (10, [.ref a51, .ref a52, .ref a53, .int l5])), (a51, .inl (cI, 256, .inl f51)), (a52, .inl (cI, 512, .inl f52)), (a53, .inl (cI, 512, .inl f53))] := hDn
      have hS := hSn
      clear hPn hDn hSn
      refine lv_istore_n (lv' := [(3, .int r_5), (0, .ref oX), (1, .int a), (2, .int b)]) hx hb dX11_passes_38 rfl hl (by decide) rfl (fun ls hl => ?_)
      refine lv_aload_n hx hb dX11_passes_39 rfl (lv_at hl 1 rfl) ?_
      refine lv_aload_n hx hb dX11_passes_40 rfl (lv_at hl 1 rfl) ?_
      refine va_get (D := (dC, dI)) (ci := 11) (v := .ref oP) (C := RX11) (T := TX11) (N := 12) hx hb hts in_X11 hown hK hP 0 rfl rfl 4 (by decide) (hts (.fieldLink RX11 44 "TextMender" "passage" "LTextMender$Passage;") (List.mem_of_getElem? (i := 2) rfl)) (fun _ h9 => h9) rfl dX11_passes_41 ?_
      have hPc := hP.sub (ws' := [(oP, .inr (7, [.ref oC, .ref nB, .int ft_5]))]) [1] rfl
      have hDc := hD.sub (ws' := [(oP, .inr (7, [.ref oC, .ref nB, .int ft_5]))]) [1] (by decide +kernel) rfl
      have hFc := va_free (wc := [(oP, .inr (7, [.ref oC, .ref nB, .int ft_5]))]) hD hS hA [1] rfl
      refine va_calli (va_runV (As := []) (rest := [.ref oX]) ⟨hx, hb, hml, hown, hts⟩ (m_X7_fault l dC dI cI cS H.size oP oC nB ft_5 ) (cwV 0 hts gX11_passes_X7_fault rfl rfl rfl (by decide +kernel) ⟨Nat.le_of_ble_eq_true rfl, Nat.le_of_ble_eq_true rfl⟩) ⟨fun a U g mk q => by obtain ⟨q0, q1, qP, qK, qD⟩ := q; exact ⟨q0, q1, qP, va_K.moved (u := U) (U := U.calling g mk a) (Vm.Alike.refl U.vm) qK, qD⟩, va_recv hK hPc (ci := 7) (q0 := 0) rfl rfl, fun U hU hW => ⟨rfl, by rw [hU], by rw [hU]; exact hPc, va_K.moved hW.alike hK, hDc.weaken (fun _ _ _ _ => trivial)⟩⟩ rfl rfl hl.1 rfl (lv_room (Nat.le_of_ble_eq_true rfl)) dX11_passes_44 ⟨Nat.le_of_ble_eq_true rfl, Nat.le_of_ble_eq_true rfl⟩) hS (fun q _ h => hFc q h) hFc (fun r_6 u t H1 locs ht hvm hw hB hz1 hk1 hSn => ?_)
      subst hw
      obtain ⟨hP1, hD1, hf6_0⟩ := hB
      rw [ht] at hP1
      obtain ⟨hPn, hDn⟩ := va_join (wr := [(oX, .inr (11, [.ref nT, .ref nL, .ref nM, .ref oC, .ref oP, .ref oH, .ref oK, .ref oG, .ref oR, .ref oQ, .ref oW, .int (-1)])), (nB, .inr (5, [.ref aB, .int lB_5])), (aB, .inl (cI, 2400, .inl fB_5)), (nL, .inr (5, [.ref aL, .int lL])), (aL, .inl (cI, 300, .inl fL)), (nM, .inr (5, [.ref aM, .int ld_5])), (aM, .inl (cI, 300, .inl fd_5)), (oC, .inr (2, [.ref o4, .ref o5])), (o4, .inr (10, [.ref a41, .ref a42, .ref a43, .int l4])), (a41, .inl (cI, 256, .inl f41)), (a42, .inl (cI, 512, .inl f42)), (a43, .inl (cI, 512, .inl f43)), (o5, .inr (10, [.ref a51, .ref a52, .ref a53, .int l5])), (a51, .inl (cI, 256, .inl f51)), (a52, .inl (cI, 512, .inl f52)), (a53, .inl (cI, 512, .inl f53))]) (w1 := [(oP, .inr (7, [.ref oC, .ref nB, .int ft_5]))]) hP hD [1] [0, 2, 3, 4, 5, 6, 7, 8, 9, 10, 11, 12, 13, 14, 15, 16] rfl rfl (by decide +kernel) (by decide +kernel) hk1 hFc hP1 hD1
      clear hP hD hS hPc hDc hFc hk1 hz1 hvm ht hP1 hD1
      generalize H1 = H at hPn hSn ⊢
      have hP : va_P (dC, dI) vwCl [(oX, .inr (11, [.ref nT, .ref nL, .ref nM, .ref oC, .ref oP, .ref oH, .ref oK, .ref oG, .ref oR, .ref oQ, .ref oW, .int (-1)])), (nB, .inr (5, [.ref aB, .int lB_5])), (aB, .inl (cI, 2400, .inl fB_5)), (nL, .inr (5, [.ref aL, .int lL])), (aL, .inl (cI, 300, .inl fL)), (nM, .inr (5, [.ref aM, .int ld_5])), (aM, .inl (cI, 300, .inl fd_5)), (oC, .inr (2, [.ref o4, .ref o5])), (o4, .inr (10, [.ref a41, .ref a42, .ref a43, .int l4])), (a41, .inl (cI, 256, .inl f41)), (a42, .inl (cI, 512, .inl f42)), (a43, .inl (cI, 512, .inl f43)), (o5, .inr (10, [.ref a51, .ref a52, .ref a53, .int l5])), (a51, .inl (cI, 256, .inl f51)), (a52, .inl (cI, 512, .inl f52)), (a53, .inl (cI, 512, .inl f53)), (oP, .inr (7, [.ref oC, .ref nB, .int ft_5]))] H := hPn
      have hD : va_D A [(oX, .inr (11, [.ref nT, .ref nL, .ref nM, .ref oC, .ref oP, .ref oH, .ref oK, .ref oG, .ref oR, .ref oQ, .ref oW, .int (-1)])), (nB, .inr (5, [.ref aB, .int lB_5])), (aB, .inl (cI, 2400, .inl fB_5)), (nL, .inr (5, [.ref aL, .int lL])), (aL, .inl (cI, 300, .inl fL)), (nM, .inr (5, [.ref aM, .int ld_5])), (aM, .inl (cI, 300, .inl fd_5)), (oC, .inr (2, [.ref o4, .ref o5])), (o4, .inr (10, [.ref a41, .ref a42, .ref a43, .int l4])), (a41, .inl (cI, 256, .inl f41)), (a42, .inl (cI, 512, .inl f42)), (a43, .inl (cI, 512, .inl f43)), (o5, .inr (10, [.ref a51, .ref a52, .ref a53, .int l5])), (a51, .inl (cI, 256, .inl f51)), (a52, .inl (cI, 512, .inl f52)), (a53, .inl (cI, 512, .inl f53)), (oP, .inr (7, [.ref oC, .ref nB, .int ft_5]))] := hDn
      have hS := hSn
      clear hPn hDn hSn
      rw [hf6_0]
      refine va_put (D := (dC, dI)) (ci := 11) (v := .int ft_5) (ty := .int) (C := RX11) (T := TX11) (N := 12) hx hb hts in_X11 tyX11 tyX11_ok nmX11 hown hK hP hD hS 0 rfl rfl 11 (by decide) (hts (.fieldLink RX11 90 "TextMender" "fault" "I") (List.mem_of_getElem? (i := 1) rfl)) (fun _ h9 => h9) rfl (by decide +kernel) rfl rfl (Nat.le_of_ble_eq_true rfl) dX11_passes_47 (fun H locs hPn hDn hSn => ?_)
      clear hP hD hS
      have hP : va_P (dC, dI) vwCl [(oX, .inr (11, [.ref nT, .ref nL, .ref nM, .ref oC, .ref oP, .ref oH, .ref oK, .ref oG, .ref oR, .ref oQ, .ref oW, .int ft_5])), (nB, .inr (5, [.ref aB, .int lB_5])), (aB, .inl (cI, 2400, .inl fB_5)), (nL, .inr (5, [.ref aL, .int lL])), (aL, .inl (cI, 300, .inl fL)), (nM, .inr (5, [.ref aM, .int ld_5])), (aM, .inl (cI, 300, .inl fd_5)), (oC, .inr (2, [.ref o4, .ref o5])), (o4, .inr (10, [.ref a41, .ref a42, .ref a43, .int l4])), (a41, .inl (cI, 256, .inl f41)), (a42, .inl (cI, 512, .inl f42)), (a43, .inl (cI, 512, .inl f43)), (o5, .inr (10, [.ref a51, .ref a52, .ref a53, .int l5])), (a51, .inl (cI, 256, .inl f51)), (a52, .inl (cI, 512, .inl f52)), (a53, .inl (cI, 512, .inl f53)), (oP, .inr (7, [.ref oC, .ref nB, .int ft_5]))] H := hPn
      have hD : va_D A [(oX, .inr (11, [.ref nT, .ref nL, .ref nM, .ref oC, .ref oP, .ref oH, .ref oK, .ref oG, .ref oR, .ref oQ, .ref oW, .int ft_5])), (nB, .inr (5, [.ref aB, .int lB_5])), (aB, .inl (cI, 2400, .inl fB_5)), (nL, .inr (5, [.ref aL, .int lL])), (aL, .inl (cI, 300, .inl fL)), (nM, .inr (5, [.ref aM, .int ld_5])), (aM, .inl (cI, 300, .inl fd_5)), (oC, .inr (2, [.ref o4, .ref o5])), (o4, .inr (10, [.ref a41, .ref a42, .ref a43, .int l4])), (a41, .inl (cI, 256, .inl f41)), (a42, .inl (cI, 512, .inl f42)), (a43, .inl (cI, 512, .inl f43)), (o5, .inr (10, [.ref a51, .ref a52, .ref a53, .int l5])), (a51, .inl (cI, 256, .inl f51)), (a52, .inl (cI, 512, .inl f52)), (a53, .inl (cI, 512, .inl f53)), (oP, .inr (7, [.ref oC, .ref nB, .int ft_5]))] := hDn
      have hS := hSn
      clear hPn hDn hSn
      refine lv_iload_n hx hb dX11_passes_50 rfl (lv_at hl 0 rfl) ?_
      have hP9 := hP.sub (ws' := [(oX, .inr (11, [.ref nT, .ref nL, .ref nM, .ref oC, .ref oP, .ref oH, .ref oK, .ref oG, .ref oR, .ref oQ, .ref oW, .int ft_5])), (nL, .inr (5, [.ref aL, .int lL])), (aL, .inl (cI, 300, .inl fL)), (nM, .inr (5, [.ref aM, .int ld_5])), (aM, .inl (cI, 300, .inl fd_5)), (oP, .inr (7, [.ref oC, .ref nB, .int ft_5])), (nB, .inr (5, [.ref aB, .int lB_5])), (aB, .inl (cI, 2400, .inl fB_5)), (oC, .inr (2, [.ref o4, .ref o5])), (o4, .inr (10, [.ref a41, .ref a42, .ref a43, .int l4])), (a41, .inl (cI, 256, .inl f41)), (a42, .inl (cI, 512, .inl f42)), (a43, .inl (cI, 512, .inl f43)), (o5, .inr (10, [.ref a51, .ref a52, .ref a53, .int l5])), (a51, .inl (cI, 256, .inl f51)), (a52, .inl (cI, 512, .inl f52)), (a53, .inl (cI, 512, .inl f53))]) [0, 3, 4, 5, 6, 16, 1, 2, 7, 8, 9, 10, 11, 12, 13, 14, 15] rfl
      have hD9 := hD.sub (ws' := [(oX, .inr (11, [.ref nT, .ref nL, .ref nM, .ref oC, .ref oP, .ref oH, .ref oK, .ref oG, .ref oR, .ref oQ, .ref oW, .int ft_5])), (nL, .inr (5, [.ref aL, .int lL])), (aL, .inl (cI, 300, .inl fL)), (nM, .inr (5, [.ref aM, .int ld_5])), (aM, .inl (cI, 300, .inl fd_5)), (oP, .inr (7, [.ref oC, .ref nB, .int ft_5])), (nB, .inr (5, [.ref aB, .int lB_5])), (aB, .inl (cI, 2400, .inl fB_5)), (oC, .inr (2, [.ref o4, .ref o5])), (o4, .inr (10, [.ref a41, .ref a42, .ref a43, .int l4])), (a41, .inl (cI, 256, .inl f41)), (a42, .inl (cI, 512, .inl f42)), (a43, .inl (cI, 512, .inl f43)), (o5, .inr (10, [.ref a51, .ref a52, .ref a53, .int l5])), (a51, .inl (cI, 256, .inl f51)), (a52, .inl (cI, 512, .inl f52)), (a53, .inl (cI, 512, .inl f53))]) [0, 3, 4, 5, 6, 16, 1, 2, 7, 8, 9, 10, 11, 12, 13, 14, 15] (by decide +kernel) rfl
      rw [hQQ]
      exact W.zret (v := r_5) (ty := .boolean) hx hb hr (v_bool (by omega)) (fun t ht hW => ⟨⟨r_5, r_5, rfl, rfl, ⟨ft_5, ft_5, lB_5, fB_5, ld_5, fd_5, by rw [ht]; exact hP9, hD9, hf5_0, hf5_1, hf5_2, Or.inl ⟨by unfold okd; omega, by unfold okd; omega, hf5_3⟩⟩⟩, hS.F ht⟩) hS.2.2 dX11_passes_51
    · have tc_4 : r_3.toInt = 0 := v_eq c_4
      refine lv_iconst (v := 0) hx hb dX11_passes_19 (by decide) ?_
      have hP9 := hP.sub (ws' := [(oX, .inr (11, [.ref nT, .ref nL, .ref nM, .ref oC, .ref oP, .ref oH, .ref oK, .ref oG, .ref oR, .ref oQ, .ref oW, .int (-1)])), (nL, .inr (5, [.ref aL, .int lL])), (aL, .inl (cI, 300, .inl fL)), (nM, .inr (5, [.ref aM, .int lM])), (aM, .inl (cI, 300, .inl fM)), (oP, .inr (7, [.ref oC, .ref nB, .int ft])), (nB, .inr (5, [.ref aB, .int lB])), (aB, .inl (cI, 2400, .inl fB)), (oC, .inr (2, [.ref o4, .ref o5])), (o4, .inr (10, [.ref a41, .ref a42, .ref a43, .int l4])), (a41, .inl (cI, 256, .inl f41)), (a42, .inl (cI, 512, .inl f42)), (a43, .inl (cI, 512, .inl f43)), (o5, .inr (10, [.ref a51, .ref a52, .ref a53, .int l5])), (a51, .inl (cI, 256, .inl f51)), (a52, .inl (cI, 512, .inl f52)), (a53, .inl (cI, 512, .inl f53))]) [0, 1, 2, 3, 4, 5, 6, 7, 8, 9, 10, 11, 12, 13, 14, 15, 16] rfl
      have hD9 := hD.sub (ws' := [(oX, .inr (11, [.ref nT, .ref nL, .ref nM, .ref oC, .ref oP, .ref oH, .ref oK, .ref oG, .ref oR, .ref oQ, .ref oW, .int (-1)])), (nL, .inr (5, [.ref aL, .int lL])), (aL, .inl (cI, 300, .inl fL)), (nM, .inr (5, [.ref aM, .int lM])), (aM, .inl (cI, 300, .inl fM)), (oP, .inr (7, [.ref oC, .ref nB, .int ft])), (nB, .inr (5, [.ref aB, .int lB])), (aB, .inl (cI, 2400, .inl fB)), (oC, .inr (2, [.ref o4, .ref o5])), (o4, .inr (10, [.ref a41, .ref a42, .ref a43, .int l4])), (a41, .inl (cI, 256, .inl f41)), (a42, .inl (cI, 512, .inl f42)), (a43, .inl (cI, 512, .inl f43)), (o5, .inr (10, [.ref a51, .ref a52, .ref a53, .int l5])), (a51, .inl (cI, 256, .inl f51)), (a52, .inl (cI, 512, .inl f52)), (a53, .inl (cI, 512, .inl f53))]) [0, 1, 2, 3, 4, 5, 6, 7, 8, 9, 10, 11, 12, 13, 14, 15, 16] (by decide +kernel) rfl
      rw [hQQ]
      exact W.zret (v := 0) (ty := .boolean) hx hb hr (rfl) (fun t ht hW => ⟨⟨0, 0, rfl, rfl, ⟨(-1), ft, lB, fB, lM, fM, by rw [ht]; exact hP9, hD9, g_lB, g_lM, by decide, Or.inr ⟨rfl, by unfold okd; omega⟩⟩⟩, hS.F ht⟩) hS.2.2 dX11_passes_20

set_option maxHeartbeats 40000000 in
set_option maxRecDepth 100000 in
theorem f_X11_harm (l : Launch) (dC : Nat → ClassId) (dI : Nat → Nat → Nat) (cI cS : ClassId) (sz : Nat) (oX : Nat) (nT : Nat) (nL : Nat) (nM : Nat) (oC : Nat) (oP : Nat) (oH : Nat) (oK : Nat) (oG : Nat) (oR : Nat) (oQ : Nat) (oW : Nat) (aL : Nat) (aM : Nat) (nB : Nat) (aB : Nat) (o4 : Nat) (o5 : Nat) (a41 : Nat) (a42 : Nat) (a43 : Nat) (a51 : Nat) (a52 : Nat) (a53 : Nat) (g1 : Nat) (g2 : Nat) (nw : Nat) (w1 : Nat) (w2 : Nat) (w3 : Nat) (o7 : Nat) (o8 : Nat) (o9 : Nat) (w4 : Nat) (w5 : Nat) (w6 : Nat) (w7 : Nat) (fa : Int32) (lL : Int32) (fL : Nat → Int32) (lM : Int32) (fM : Nat → Int32) (ft : Int32) (lB : Int32) (fB : Nat → Int32) (l4 : Int32) (f41 : Nat → Int32) (f42 : Nat → Int32) (f43 : Nat → Int32) (l5 : Int32) (f51 : Nat → Int32) (f52 : Nat → Int32) (f53 : Nat → Int32) (gn : Int32) (lG : Int32) (fG1 : Nat → Int32) (fG2 : Nat → Int32) (ke : Int32) (tl : Int32) (fsh : Int32) (wi : Int32) (ri : Int32) (fm : Int32) (lm : Int32) (a : Int32) (b : Int32) (g_lL : 0 ≤ lL.toInt ∧ lL.toInt ≤ 300) (g_lM : 0 ≤ lM.toInt ∧ lM.toInt ≤ 300) (g_lB : 0 ≤ lB.toInt ∧ lB.toInt ≤ 2400) (g_gn : 0 ≤ gn.toInt ∧ gn.toInt ≤ 19) (g_lG : 0 ≤ lG.toInt ∧ lG.toInt ≤ 20) (g_fG2 : rg 0 300 fG2) (g_ke : 0 ≤ ke.toInt ∧ ke.toInt ≤ 200) (g_fsh : 0 ≤ fsh.toInt ∧ fsh.toInt ≤ 1) (g_fm : -1 ≤ fm.toInt ∧ fm.toInt ≤ 800) (g_lm : -1 ≤ lm.toInt ∧ lm.toInt ≤ 800) (hlt : prg lL.toInt 0 65535 fL) (hT4 : HT 512 511 hsT f42 f43) (ho4 : (occ f43 512 : Int) ≤ 511) (hT5 : HT 512 511 hsT f52 f53) (ho5 : (occ f53 512 : Int) ≤ 511) (hL4 : prg 256 (-1) 65535 f41) (hL5 : prg 256 (-1) 65535 f51) (hBr : ∀ cd : Int32, okB (Bc cd f42 f43 f52 f53)) : Met l yX11_harm wsX11_harm ({ frames := 6, cells := 0, slots := 0, locals := 147 } : Room) (va_Pc [.ref oX, .int a, .int b] (fun U => U.heap.size = sz ∧ va_P (dC, dI) vwCl [(oX, .inr (11, [.ref nT, .ref nL, .ref nM, .ref oC, .ref oP, .ref oH, .ref oK, .ref oG, .ref oR, .ref oQ, .ref oW, .int fa])), (nL, .inr (5, [.ref aL, .int lL])), (aL, .inl (cI, 300, .inl fL)), (nM, .inr (5, [.ref aM, .int lM])), (aM, .inl (cI, 300, .inl fM)), (oP, .inr (7, [.ref oC, .ref nB, .int ft])), (nB, .inr (5, [.ref aB, .int lB])), (aB, .inl (cI, 2400, .inl fB)), (oC, .inr (2, [.ref o4, .ref o5])), (o4, .inr (10, [.ref a41, .ref a42, .ref a43, .int l4])), (a41, .inl (cI, 256, .inl f41)), (a42, .inl (cI, 512, .inl f42)), (a43, .inl (cI, 512, .inl f43)), (o5, .inr (10, [.ref a51, .ref a52, .ref a53, .int l5])), (a51, .inl (cI, 256, .inl f51)), (a52, .inl (cI, 512, .inl f52)), (a53, .inl (cI, 512, .inl f53)), (oG, .inr (0, [.ref g1, .ref g2, .int gn, .int lG])), (g1, .inl (cI, 6000, .inl fG1)), (g2, .inl (cI, 20, .inl fG2)), (oW, .inr (1, [.ref oC, .ref oK, .ref nw, .ref w1, .ref w2, .ref w3, .ref o7, .ref o8, .ref o9, .ref w4, .ref w5, .ref w6, .ref w7, .int ke, .int tl, .int fsh, .int wi, .int ri, .int fm, .int lm]))] U.heap ∧ va_K (dC, dI) vwCl [(cI, .int), (cS, .short)] U ∧ va_D (fun _ => True) [(oX, .inr (11, [.ref nT, .ref nL, .ref nM, .ref oC, .ref oP, .ref oH, .ref oK, .ref oG, .ref oR, .ref oQ, .ref oW, .int fa])), (nL, .inr (5, [.ref aL, .int lL])), (aL, .inl (cI, 300, .inl fL)), (nM, .inr (5, [.ref aM, .int lM])), (aM, .inl (cI, 300, .inl fM)), (oP, .inr (7, [.ref oC, .ref nB, .int ft])), (nB, .inr (5, [.ref aB, .int lB])), (aB, .inl (cI, 2400, .inl fB)), (oC, .inr (2, [.ref o4, .ref o5])), (o4, .inr (10, [.ref a41, .ref a42, .ref a43, .int l4])), (a41, .inl (cI, 256, .inl f41)), (a42, .inl (cI, 512, .inl f42)), (a43, .inl (cI, 512, .inl f43)), (o5, .inr (10, [.ref a51, .ref a52, .ref a53, .int l5])), (a51, .inl (cI, 256, .inl f51)), (a52, .inl (cI, 512, .inl f52)), (a53, .inl (cI, 512, .inl f53)), (oG, .inr (0, [.ref g1, .ref g2, .int gn, .int lG])), (g1, .inl (cI, 6000, .inl fG1)), (g2, .inl (cI, 20, .inl fG2)), (oW, .inr (1, [.ref oC, .ref oK, .ref nw, .ref w1, .ref w2, .ref w3, .ref o7, .ref o8, .ref o9, .ref w4, .ref w5, .ref w6, .ref w7, .int ke, .int tl, .int fsh, .int wi, .int ri, .int fm, .int lm]))] ∧ va_Nw (.methodLinkNest RX2 52 yX11_isLetter "TextMender") U)) (va_Qi (fun (r : Int32) (u : Int32) => r = u) (fun (r : Int32) t => ∃ (fa' : Int32) (ft' : Int32) (lB' : Int32) (fB' : Nat → Int32) (lM' : Int32) (fM' : Nat → Int32) (lL' : Int32) (fL' : Nat → Int32) (fsh' : Int32) (gn' : Int32) (lG' : Int32) (fG1' : Nat → Int32) (fG2' : Nat → Int32), va_P (dC, dI) vwCl [(oX, .inr (11, [.ref nT, .ref nL, .ref nM, .ref oC, .ref oP, .ref oH, .ref oK, .ref oG, .ref oR, .ref oQ, .ref oW, .int fa'])), (nL, .inr (5, [.ref aL, .int lL'])), (aL, .inl (cI, 300, .inl fL')), (nM, .inr (5, [.ref aM, .int lM'])), (aM, .inl (cI, 300, .inl fM')), (oP, .inr (7, [.ref oC, .ref nB, .int ft'])), (nB, .inr (5, [.ref aB, .int lB'])), (aB, .inl (cI, 2400, .inl fB')), (oC, .inr (2, [.ref o4, .ref o5])), (o4, .inr (10, [.ref a41, .ref a42, .ref a43, .int l4])), (a41, .inl (cI, 256, .inl f41)), (a42, .inl (cI, 512, .inl f42)), (a43, .inl (cI, 512, .inl f43)), (o5, .inr (10, [.ref a51, .ref a52, .ref a53, .int l5])), (a51, .inl (cI, 256, .inl f51)), (a52, .inl (cI, 512, .inl f52)), (a53, .inl (cI, 512, .inl f53)), (oG, .inr (0, [.ref g1, .ref g2, .int gn', .int lG'])), (g1, .inl (cI, 6000, .inl fG1')), (g2, .inl (cI, 20, .inl fG2')), (oW, .inr (1, [.ref oC, .ref oK, .ref nw, .ref w1, .ref w2, .ref w3, .ref o7, .ref o8, .ref o9, .ref w4, .ref w5, .ref w6, .ref w7, .int ke, .int tl, .int fsh', .int wi, .int ri, .int fm, .int lm]))] t.heap ∧ va_D (va_A [(oX, .inr (11, [.ref nT, .ref nL, .ref nM, .ref oC, .ref oP, .ref oH, .ref oK, .ref oG, .ref oR, .ref oQ, .ref oW, .int fa])), (nL, .inr (5, [.ref aL, .int lL])), (aL, .inl (cI, 300, .inl fL)), (nM, .inr (5, [.ref aM, .int lM])), (aM, .inl (cI, 300, .inl fM)), (oP, .inr (7, [.ref oC, .ref nB, .int ft])), (nB, .inr (5, [.ref aB, .int lB])), (aB, .inl (cI, 2400, .inl fB)), (oC, .inr (2, [.ref o4, .ref o5])), (o4, .inr (10, [.ref a41, .ref a42, .ref a43, .int l4])), (a41, .inl (cI, 256, .inl f41)), (a42, .inl (cI, 512, .inl f42)), (a43, .inl (cI, 512, .inl f43)), (o5, .inr (10, [.ref a51, .ref a52, .ref a53, .int l5])), (a51, .inl (cI, 256, .inl f51)), (a52, .inl (cI, 512, .inl f52)), (a53, .inl (cI, 512, .inl f53)), (oG, .inr (0, [.ref g1, .ref g2, .int gn, .int lG])), (g1, .inl (cI, 6000, .inl fG1)), (g2, .inl (cI, 20, .inl fG2)), (oW, .inr (1, [.ref oC, .ref oK, .ref nw, .ref w1, .ref w2, .ref w3, .ref o7, .ref o8, .ref o9, .ref w4, .ref w5, .ref w6, .ref w7, .int ke, .int tl, .int fsh, .int wi, .int ri, .int fm, .int lm]))] sz) [(oX, .inr (11, [.ref nT, .ref nL, .ref nM, .ref oC, .ref oP, .ref oH, .ref oK, .ref oG, .ref oR, .ref oQ, .ref oW, .int fa'])), (nL, .inr (5, [.ref aL, .int lL'])), (aL, .inl (cI, 300, .inl fL')), (nM, .inr (5, [.ref aM, .int lM'])), (aM, .inl (cI, 300, .inl fM')), (oP, .inr (7, [.ref oC, .ref nB, .int ft'])), (nB, .inr (5, [.ref aB, .int lB'])), (aB, .inl (cI, 2400, .inl fB')), (oC, .inr (2, [.ref o4, .ref o5])), (o4, .inr (10, [.ref a41, .ref a42, .ref a43, .int l4])), (a41, .inl (cI, 256, .inl f41)), (a42, .inl (cI, 512, .inl f42)), (a43, .inl (cI, 512, .inl f43)), (o5, .inr (10, [.ref a51, .ref a52, .ref a53, .int l5])), (a51, .inl (cI, 256, .inl f51)), (a52, .inl (cI, 512, .inl f52)), (a53, .inl (cI, 512, .inl f53)), (oG, .inr (0, [.ref g1, .ref g2, .int gn', .int lG'])), (g1, .inl (cI, 6000, .inl fG1')), (g2, .inl (cI, 20, .inl fG2')), (oW, .inr (1, [.ref oC, .ref oK, .ref nw, .ref w1, .ref w2, .ref w3, .ref o7, .ref o8, .ref o9, .ref w4, .ref w5, .ref w6, .ref w7, .int ke, .int tl, .int fsh', .int wi, .int ri, .int fm, .int lm]))] ∧ (0 ≤ lB'.toInt ∧ lB'.toInt ≤ 2400) ∧ (0 ≤ lM'.toInt ∧ lM'.toInt ≤ 300) ∧ (0 ≤ lL'.toInt ∧ lL'.toInt ≤ 300) ∧ (0 ≤ fsh'.toInt ∧ fsh'.toInt ≤ 1) ∧ (0 ≤ gn'.toInt ∧ gn'.toInt ≤ 19) ∧ (0 ≤ lG'.toInt ∧ lG'.toInt ≤ 20) ∧ (rg 0 300 fG2') ∧ (OC (-1) r fsh fsh' gn gn' lG lG' lL lL' fG1 fG1' fG2 fG2' fL fL' (hmP a b f41 f51 (Bc a f42 f43 f52 f53) lL.toInt fL))) (va_A [(oX, .inr (11, [.ref nT, .ref nL, .ref nM, .ref oC, .ref oP, .ref oH, .ref oK, .ref oG, .ref oR, .ref oQ, .ref oW, .int fa])), (nL, .inr (5, [.ref aL, .int lL])), (aL, .inl (cI, 300, .inl fL)), (nM, .inr (5, [.ref aM, .int lM])), (aM, .inl (cI, 300, .inl fM)), (oP, .inr (7, [.ref oC, .ref nB, .int ft])), (nB, .inr (5, [.ref aB, .int lB])), (aB, .inl (cI, 2400, .inl fB)), (oC, .inr (2, [.ref o4, .ref o5])), (o4, .inr (10, [.ref a41, .ref a42, .ref a43, .int l4])), (a41, .inl (cI, 256, .inl f41)), (a42, .inl (cI, 512, .inl f42)), (a43, .inl (cI, 512, .inl f43)), (o5, .inr (10, [.ref a51, .ref a52, .ref a53, .int l5])), (a51, .inl (cI, 256, .inl f51)), (a52, .inl (cI, 512, .inl f52)), (a53, .inl (cI, 512, .inl f53)), (oG, .inr (0, [.ref g1, .ref g2, .int gn, .int lG])), (g1, .inl (cI, 6000, .inl fG1)), (g2, .inl (cI, 20, .inl fG2)), (oW, .inr (1, [.ref oC, .ref oK, .ref nw, .ref w1, .ref w2, .ref w3, .ref o7, .ref o8, .ref o9, .ref w4, .ref w5, .ref w6, .ref w7, .int ke, .int tl, .int fsh, .int wi, .int ri, .int fm, .int lm]))] sz)) 0 0 (va_A [(oX, .inr (11, [.ref nT, .ref nL, .ref nM, .ref oC, .ref oP, .ref oH, .ref oK, .ref oG, .ref oR, .ref oQ, .ref oW, .int fa])), (nL, .inr (5, [.ref aL, .int lL])), (aL, .inl (cI, 300, .inl fL)), (nM, .inr (5, [.ref aM, .int lM])), (aM, .inl (cI, 300, .inl fM)), (oP, .inr (7, [.ref oC, .ref nB, .int ft])), (nB, .inr (5, [.ref aB, .int lB])), (aB, .inl (cI, 2400, .inl fB)), (oC, .inr (2, [.ref o4, .ref o5])), (o4, .inr (10, [.ref a41, .ref a42, .ref a43, .int l4])), (a41, .inl (cI, 256, .inl f41)), (a42, .inl (cI, 512, .inl f42)), (a43, .inl (cI, 512, .inl f43)), (o5, .inr (10, [.ref a51, .ref a52, .ref a53, .int l5])), (a51, .inl (cI, 256, .inl f51)), (a52, .inl (cI, 512, .inl f52)), (a53, .inl (cI, 512, .inl f53)), (oG, .inr (0, [.ref g1, .ref g2, .int gn, .int lG])), (g1, .inl (cI, 6000, .inl fG1)), (g2, .inl (cI, 20, .inl fG2)), (oW, .inr (1, [.ref oC, .ref oK, .ref nw, .ref w1, .ref w2, .ref w3, .ref o7, .ref o8, .ref o9, .ref w4, .ref w5, .ref w6, .ref w7, .int ke, .int tl, .int fsh, .int wi, .int ri, .int fm, .int lm]))] sz) := by
  refine Met.ofW (cc := cX11_harm) (maxL := 3) (ret := (some .int)) (by decide) rfl ?_
  intro p e s m args below meth c s₁ B hml hv
  obtain ⟨rfl, hsz, hP, hK, hD0, hN52⟩ := hv
  have hx := B.exec
  have hb := B.bytes
  have hr := B.returns
  have hts := atoms_spec (ws := wsX11_harm) B.pre
  have hown : s.vm.findClass RX11 = some m.cls := findClass_of_methodNamed B.named
  have hlocks := B.notSynchronized
  have in_X11 : ∀ w ∈ wsX110, w ∈ wsX11_harm := fun _ h => List.mem_cons_of_mem _ (List.mem_append_left _ (List.mem_append_left _ (List.mem_append_left _ (List.mem_append_left _ (List.mem_append_left _ (List.mem_append_left _ (List.mem_append_right _ (h))))))))
  subst hsz
  have hD := hD0.self (sz := s.heap.size)
  generalize hAe : va_A [(oX, .inr (11, [.ref nT, .ref nL, .ref nM, .ref oC, .ref oP, .ref oH, .ref oK, .ref oG, .ref oR, .ref oQ, .ref oW, .int fa])), (nL, .inr (5, [.ref aL, .int lL])), (aL, .inl (cI, 300, .inl fL)), (nM, .inr (5, [.ref aM, .int lM])), (aM, .inl (cI, 300, .inl fM)), (oP, .inr (7, [.ref oC, .ref nB, .int ft])), (nB, .inr (5, [.ref aB, .int lB])), (aB, .inl (cI, 2400, .inl fB)), (oC, .inr (2, [.ref o4, .ref o5])), (o4, .inr (10, [.ref a41, .ref a42, .ref a43, .int l4])), (a41, .inl (cI, 256, .inl f41)), (a42, .inl (cI, 512, .inl f42)), (a43, .inl (cI, 512, .inl f43)), (o5, .inr (10, [.ref a51, .ref a52, .ref a53, .int l5])), (a51, .inl (cI, 256, .inl f51)), (a52, .inl (cI, 512, .inl f52)), (a53, .inl (cI, 512, .inl f53)), (oG, .inr (0, [.ref g1, .ref g2, .int gn, .int lG])), (g1, .inl (cI, 6000, .inl fG1)), (g2, .inl (cI, 20, .inl fG2)), (oW, .inr (1, [.ref oC, .ref oK, .ref nw, .ref w1, .ref w2, .ref w3, .ref o7, .ref o8, .ref o9, .ref w4, .ref w5, .ref w6, .ref w7, .int ke, .int tl, .int fsh, .int wi, .int ri, .int fm, .int lm]))] s.heap.size = A at hD ⊢
  have hA : ∀ q : Nat, s.heap.size ≤ q → A q := fun q h => by rw [← hAe]; exact Or.inr h
  have hS : va_S A s.heap s.heap [] := va_S.rf
  have hP : va_P (dC, dI) vwCl [(oX, .inr (11, [.ref nT, .ref nL, .ref nM, .ref oC, .ref oP, .ref oH, .ref oK, .ref oG, .ref oR, .ref oQ, .ref oW, .int fa])), (nL, .inr (5, [.ref aL, .int lL])), (aL, .inl (cI, 300, .inl fL)), (nM, .inr (5, [.ref aM, .int lM])), (aM, .inl (cI, 300, .inl fM)), (oP, .inr (7, [.ref oC, .ref nB, .int ft])), (nB, .inr (5, [.ref aB, .int lB])), (aB, .inl (cI, 2400, .inl fB)), (oC, .inr (2, [.ref o4, .ref o5])), (o4, .inr (10, [.ref a41, .ref a42, .ref a43, .int l4])), (a41, .inl (cI, 256, .inl f41)), (a42, .inl (cI, 512, .inl f42)), (a43, .inl (cI, 512, .inl f43)), (o5, .inr (10, [.ref a51, .ref a52, .ref a53, .int l5])), (a51, .inl (cI, 256, .inl f51)), (a52, .inl (cI, 512, .inl f52)), (a53, .inl (cI, 512, .inl f53)), (oG, .inr (0, [.ref g1, .ref g2, .int gn, .int lG])), (g1, .inl (cI, 6000, .inl fG1)), (g2, .inl (cI, 20, .inl fG2)), (oW, .inr (1, [.ref oC, .ref oK, .ref nw, .ref w1, .ref w2, .ref w3, .ref o7, .ref o8, .ref o9, .ref w4, .ref w5, .ref w6, .ref w7, .int ke, .int tl, .int fsh, .int wi, .int ri, .int fm, .int lm]))] s.heap := hP
  have hl := lv_entry ([.ref oX, .int a, .int b]) (n := 3) (Nat.le_of_ble_eq_true rfl)
  rw [lg_entry_eq]
  generalize (lg_sl ([.ref oX, .int a, .int b]) ++ List.replicate (3 - (lg_sl ([.ref oX, .int a, .int b])).length) Slot.unset).toArray = ls at hl ⊢
  have hl : lv_has ls 3 [(0, .ref oX), (1, .int a), (2, .int b)] := hl
  obtain ⟨QQ, hQQ⟩ : ∃ QQ : Array Value → State → Outcome → State → Prop, QQ = va_Qi (fun (r : Int32) (u : Int32) => r = u) (fun (r : Int32) t => ∃ (fa' : Int32) (ft' : Int32) (lB' : Int32) (fB' : Nat → Int32) (lM' : Int32) (fM' : Nat → Int32) (lL' : Int32) (fL' : Nat → Int32) (fsh' : Int32) (gn' : Int32) (lG' : Int32) (fG1' : Nat → Int32) (fG2' : Nat → Int32), va_P (dC, dI) vwCl [(oX, .inr (11, [.ref nT, .ref nL, .ref nM, .ref oC, .ref oP, .ref oH, .ref oK, .ref oG, .ref oR, .ref oQ, .ref oW, .int fa'])), (nL, .inr (5, [.ref aL, .int lL'])), (aL, .inl (cI, 300, .inl fL')), (nM, .inr (5, [.ref aM, .int lM'])), (aM, .inl (cI, 300, .inl fM')), (oP, .inr (7, [.ref oC, .ref nB, .int ft'])), (nB, .inr (5, [.ref aB, .int lB'])), (aB, .inl (cI, 2400, .inl fB')), (oC, .inr (2, [.ref o4, .ref o5])), (o4, .inr (10, [.ref a41, .ref a42, .ref a43, .int l4])), (a41, .inl (cI, 256, .inl f41)), (a42, .inl (cI, 512, .inl f42)), (a43, .inl (cI, 512, .inl f43)), (o5, .inr (10, [.ref a51, .ref a52, .ref a53, .int l5])), (a51, .inl (cI, 256, .inl f51)), (a52, .inl (cI, 512, .inl f52)), (a53, .inl (cI, 512, .inl f53)), (oG, .inr (0, [.ref g1, .ref g2, .int gn', .int lG'])), (g1, .inl (cI, 6000, .inl fG1')), (g2, .inl (cI, 20, .inl fG2')), (oW, .inr (1, [.ref oC, .ref oK, .ref nw, .ref w1, .ref w2, .ref w3, .ref o7, .ref o8, .ref o9, .ref w4, .ref w5, .ref w6, .ref w7, .int ke, .int tl, .int fsh', .int wi, .int ri, .int fm, .int lm]))] t.heap ∧ va_D A [(oX, .inr (11, [.ref nT, .ref nL, .ref nM, .ref oC, .ref oP, .ref oH, .ref oK, .ref oG, .ref oR, .ref oQ, .ref oW, .int fa'])), (nL, .inr (5, [.ref aL, .int lL'])), (aL, .inl (cI, 300, .inl fL')), (nM, .inr (5, [.ref aM, .int lM'])), (aM, .inl (cI, 300, .inl fM')), (oP, .inr (7, [.ref oC, .ref nB, .int ft'])), (nB, .inr (5, [.ref aB, .int lB'])), (aB, .inl (cI, 2400, .inl fB')), (oC, .inr (2, [.ref o4, .ref o5])), (o4, .inr (10, [.ref a41, .ref a42, .ref a43, .int l4])), (a41, .inl (cI, 256, .inl f41)), (a42, .inl (cI, 512, .inl f42)), (a43, .inl (cI, 512, .inl f43)), (o5, .inr (10, [.ref a51, .ref a52, .ref a53, .int l5])), (a51, .inl (cI, 256, .inl f51)), (a52, .inl (cI, 512, .inl f52)), (a53, .inl (cI, 512, .inl f53)), (oG, .inr (0, [.ref g1, .ref g2, .int gn', .int lG'])), (g1, .inl (cI, 6000, .inl fG1')), (g2, .inl (cI, 20, .inl fG2')), (oW, .inr (1, [.ref oC, .ref oK, .ref nw, .ref w1, .ref w2, .ref w3, .ref o7, .ref o8, .ref o9, .ref w4, .ref w5, .ref w6, .ref w7, .int ke, .int tl, .int fsh', .int wi, .int ri, .int fm, .int lm]))] ∧ (0 ≤ lB'.toInt ∧ lB'.toInt ≤ 2400) ∧ (0 ≤ lM'.toInt ∧ lM'.toInt ≤ 300) ∧ (0 ≤ lL'.toInt ∧ lL'.toInt ≤ 300) ∧ (0 ≤ fsh'.toInt ∧ fsh'.toInt ≤ 1) ∧ (0 ≤ gn'.toInt ∧ gn'.toInt ≤ 19) ∧ (0 ≤ lG'.toInt ∧ lG'.toInt ≤ 20) ∧ (rg 0 300 fG2') ∧ (OC (-1) r fsh fsh' gn gn' lG lG' lL lL' fG1 fG1' fG2 fG2' fL fL' (hmP a b f41 f51 (Bc a f42 f43 f52 f53) lL.toInt fL))) A := ⟨_, rfl⟩
  rw [← hQQ]
  refine lv_aload_n hx hb dX11_harm_0 rfl (lv_at hl 0 rfl) ?_
  refine lv_iload_n hx hb dX11_harm_1 rfl (lv_at hl 1 rfl) ?_
  refine lv_iload_n hx hb dX11_harm_2 rfl (lv_at hl 2 rfl) ?_
  have hPc := hP.sub (ws' := [(oX, .inr (11, [.ref nT, .ref nL, .ref nM, .ref oC, .ref oP, .ref oH, .ref oK, .ref oG, .ref oR, .ref oQ, .ref oW, .int fa])), (nL, .inr (5, [.ref aL, .int lL])), (aL, .inl (cI, 300, .inl fL)), (nM, .inr (5, [.ref aM, .int lM])), (aM, .inl (cI, 300, .inl fM)), (oP, .inr (7, [.ref oC, .ref nB, .int ft])), (nB, .inr (5, [.ref aB, .int lB])), (aB, .inl (cI, 2400, .inl fB)), (oC, .inr (2, [.ref o4, .ref o5])), (o4, .inr (10, [.ref a41, .ref a42, .ref a43, .int l4])), (a41, .inl (cI, 256, .inl f41)), (a42, .inl (cI, 512, .inl f42)), (a43, .inl (cI, 512, .inl f43)), (o5, .inr (10, [.ref a51, .ref a52, .ref a53, .int l5])), (a51, .inl (cI, 256, .inl f51)), (a52, .inl (cI, 512, .inl f52)), (a53, .inl (cI, 512, .inl f53))]) [0, 1, 2, 3, 4, 5, 6, 7, 8, 9, 10, 11, 12, 13, 14, 15, 16] rfl
  have hDc := hD.sub (ws' := [(oX, .inr (11, [.ref nT, .ref nL, .ref nM, .ref oC, .ref oP, .ref oH, .ref oK, .ref oG, .ref oR, .ref oQ, .ref oW, .int fa])), (nL, .inr (5, [.ref aL, .int lL])), (aL, .inl (cI, 300, .inl fL)), (nM, .inr (5, [.ref aM, .int lM])), (aM, .inl (cI, 300, .inl fM)), (oP, .inr (7, [.ref oC, .ref nB, .int ft])), (nB, .inr (5, [.ref aB, .int lB])), (aB, .inl (cI, 2400, .inl fB)), (oC, .inr (2, [.ref o4, .ref o5])), (o4, .inr (10, [.ref a41, .ref a42, .ref a43, .int l4])), (a41, .inl (cI, 256, .inl f41)), (a42, .inl (cI, 512, .inl f42)), (a43, .inl (cI, 512, .inl f43)), (o5, .inr (10, [.ref a51, .ref a52, .ref a53, .int l5])), (a51, .inl (cI, 256, .inl f51)), (a52, .inl (cI, 512, .inl f52)), (a53, .inl (cI, 512, .inl f53))]) [0, 1, 2, 3, 4, 5, 6, 7, 8, 9, 10, 11, 12, 13, 14, 15, 16] (by decide +kernel) rfl
  have hFc := va_free (wc := [(oX, .inr (11, [.ref nT, .ref nL, .ref nM, .ref oC, .ref oP, .ref oH, .ref oK, .ref oG, .ref oR, .ref oQ, .ref oW, .int fa])), (nL, .inr (5, [.ref aL, .int lL])), (aL, .inl (cI, 300, .inl fL)), (nM, .inr (5, [.ref aM, .int lM])), (aM, .inl (cI, 300, .inl fM)), (oP, .inr (7, [.ref oC, .ref nB, .int ft])), (nB, .inr (5, [.ref aB, .int lB])), (aB, .inl (cI, 2400, .inl fB)), (oC, .inr (2, [.ref o4, .ref o5])), (o4, .inr (10, [.ref a41, .ref a42, .ref a43, .int l4])), (a41, .inl (cI, 256, .inl f41)), (a42, .inl (cI, 512, .inl f42)), (a43, .inl (cI, 512, .inl f43)), (o5, .inr (10, [.ref a51, .ref a52, .ref a53, .int l5])), (a51, .inl (cI, 256, .inl f51)), (a52, .inl (cI, 512, .inl f52)), (a53, .inl (cI, 512, .inl f53))]) hD hS hA [0, 1, 2, 3, 4, 5, 6, 7, 8, 9, 10, 11, 12, 13, 14, 15, 16] rfl
  refine va_calli (va_runV (As := [.int a, .int b]) (rest := []) ⟨hx, hb, hml, hown, hts⟩ (f_X11_passes l dC dI cI cS s.heap.size oX nT nL nM oC oP oH oK oG oR oQ oW aL aM nB aB o4 o5 a41 a42 a43 a51 a52 a53 fa lL fL lM fM ft lB fB l4 f41 f42 f43 l5 f51 f52 f53 a b (g_lL) (g_lM) (g_lB) (hlt) (hT4) (by omega) (hT5) (by omega) (hL4) (hL5) (hBr)) (cwV 2 hts gX11_harm_X11_passes rfl rfl rfl (by decide +kernel) ⟨Nat.le_of_ble_eq_true rfl, Nat.le_of_ble_eq_true rfl⟩) ⟨fun a U g mk q => by obtain ⟨q0, q1, qP, qK, qD, qN0⟩ := q; exact ⟨q0, q1, qP, va_K.moved (u := U) (U := U.calling g mk a) (Vm.Alike.refl U.vm) qK, qD, va_Nw.same rfl rfl qN0⟩, va_recv hK hPc (ci := 11) (q0 := 0) rfl rfl, fun U hU hW => ⟨rfl, by rw [hU], by rw [hU]; exact hPc, va_K.moved hW.alike hK, hDc.weaken (fun _ _ _ _ => trivial), va_Nw.warmM hW hN52⟩⟩ rfl rfl hl.1 rfl (lv_room (Nat.le_of_ble_eq_true rfl)) dX11_harm_3 ⟨Nat.le_of_ble_eq_true rfl, Nat.le_of_ble_eq_true rfl⟩) hS (fun q _ h => hFc q h) hFc (fun r_1 u t H1 locs ht hvm hw hB hz1 hk1 hSn => ?_)
  subst hw
  obtain ⟨fa_1, ft_1, lB_1, fB_1, lM_1, fM_1, hP1, hD1, hf1_0, hf1_1, hf1_2, hf1_3⟩ := hB
  rw [ht] at hP1
  obtain ⟨hPn, hDn⟩ := va_join (wr := [(oG, .inr (0, [.ref g1, .ref g2, .int gn, .int lG])), (g1, .inl (cI, 6000, .inl fG1)), (g2, .inl (cI, 20, .inl fG2)), (oW, .inr (1, [.ref oC, .ref oK, .ref nw, .ref w1, .ref w2, .ref w3, .ref o7, .ref o8, .ref o9, .ref w4, .ref w5, .ref w6, .ref w7, .int ke, .int tl, .int fsh, .int wi, .int ri, .int fm, .int lm]))]) (w1 := [(oX, .inr (11, [.ref nT, .ref nL, .ref nM, .ref oC, .ref oP, .ref oH, .ref oK, .ref oG, .ref oR, .ref oQ, .ref oW, .int fa_1])), (nL, .inr (5, [.ref aL, .int lL])), (aL, .inl (cI, 300, .inl fL)), (nM, .inr (5, [.ref aM, .int lM_1])), (aM, .inl (cI, 300, .inl fM_1)), (oP, .inr (7, [.ref oC, .ref nB, .int ft_1])), (nB, .inr (5, [.ref aB, .int lB_1])), (aB, .inl (cI, 2400, .inl fB_1)), (oC, .inr (2, [.ref o4, .ref o5])), (o4, .inr (10, [.ref a41, .ref a42, .ref a43, .int l4])), (a41, .inl (cI, 256, .inl f41)), (a42, .inl (cI, 512, .inl f42)), (a43, .inl (cI, 512, .inl f43)), (o5, .inr (10, [.ref a51, .ref a52, .ref a53, .int l5])), (a51, .inl (cI, 256, .inl f51)), (a52, .inl (cI, 512, .inl f52)), (a53, .inl (cI, 512, .inl f53))]) hP hD [0, 1, 2, 3, 4, 5, 6, 7, 8, 9, 10, 11, 12, 13, 14, 15, 16] [17, 18, 19, 20] rfl rfl (by decide +kernel) (by decide +kernel) hk1 hFc hP1 hD1
  clear hP hD hS hPc hDc hFc hk1 hz1 hvm ht hP1 hD1
  generalize H1 = H at hPn hSn ⊢
  have hP : va_P (dC, dI) vwCl [(oG, .inr (0, [.ref g1, .ref g2, .int gn, .int lG])), (g1, .inl (cI, 6000, .inl fG1)), (g2, .inl (cI, 20, .inl fG2)), (oW, .inr (1, [.ref oC, .ref oK, .ref nw, .ref w1, .ref w2, .ref w3, .ref o7, .ref o8, .ref o9, .ref w4, .ref w5, .ref w6, .ref w7, .int ke, .int tl, .int fsh, .int wi, .int ri, .int fm, .int lm])), (oX, .inr (11, [.ref nT, .ref nL, .ref nM, .ref oC, .ref oP, .ref oH, .ref oK, .ref oG, .ref oR, .ref oQ, .ref oW, .int fa_1])), (nL, .inr (5, [.ref aL, .int lL])), (aL, .inl (cI, 300, .inl fL)), (nM, .inr (5, [.ref aM, .int lM_1])), (aM, .inl (cI, 300, .inl fM_1)), (oP, .inr (7, [.ref oC, .ref nB, .int ft_1])), (nB, .inr (5, [.ref aB, .int lB_1])), (aB, .inl (cI, 2400, .inl fB_1)), (oC, .inr (2, [.ref o4, .ref o5])), (o4, .inr (10, [.ref a41, .ref a42, .ref a43, .int l4])), (a41, .inl (cI, 256, .inl f41)), (a42, .inl (cI, 512, .inl f42)), (a43, .inl (cI, 512, .inl f43)), (o5, .inr (10, [.ref a51, .ref a52, .ref a53, .int l5])), (a51, .inl (cI, 256, .inl f51)), (a52, .inl (cI, 512, .inl f52)), (a53, .inl (cI, 512, .inl f53))] H := hPn
  have hD : va_D A [(oG, .inr (0, [.ref g1, .ref g2, .int gn, .int lG])), (g1, .inl (cI, 6000, .inl fG1)), (g2, .inl (cI, 20, .inl fG2)), (oW, .inr (1, [.ref oC, .ref oK, .ref nw, .ref w1, .ref w2, .ref w3, .ref o7, .ref o8, .ref o9, .ref w4, .ref w5, .ref w6, .ref w7, .int ke, .int tl, .int fsh, .int wi, .int ri, .int fm, .int lm])), (oX, .inr (11, [.ref nT, .ref nL, .ref nM, .ref oC, .ref oP, .ref oH, .ref oK, .ref oG, .ref oR, .ref oQ, .ref oW, .int fa_1])), (nL, .inr (5, [.ref aL, .int lL])), (aL, .inl (cI, 300, .inl fL)), (nM, .inr (5, [.ref aM, .int lM_1])), (aM, .inl (cI, 300, .inl fM_1)), (oP, .inr (7, [.ref oC, .ref nB, .int ft_1])), (nB, .inr (5, [.ref aB, .int lB_1])), (aB, .inl (cI, 2400, .inl fB_1)), (oC, .inr (2, [.ref o4, .ref o5])), (o4, .inr (10, [.ref a41, .ref a42, .ref a43, .int l4])), (a41, .inl (cI, 256, .inl f41)), (a42, .inl (cI, 512, .inl f42)), (a43, .inl (cI, 512, .inl f43)), (o5, .inr (10, [.ref a51, .ref a52, .ref a53, .int l5])), (a51, .inl (cI, 256, .inl f51)), (a52, .inl (cI, 512, .inl f52)), (a53, .inl (cI, 512, .inl f53))] := hDn
  have hS := hSn
  clear hPn hDn hSn
  refine lv_if_eq (tgt := 20) hx hb dX11_harm_6 (by decide) (fun c_2 => ?_) (fun c_2 => ?_)
  · have tc_2 : r_1.toInt = 0 := v_eq c_2
    refine lv_iconst (v := (-1)) hx hb dX11_harm_20 (by decide) ?_
    have hP9 := hP.sub (ws' := [(oX, .inr (11, [.ref nT, .ref nL, .ref nM, .ref oC, .ref oP, .ref oH, .ref oK, .ref oG, .ref oR, .ref oQ, .ref oW, .int fa_1])), (nL, .inr (5, [.ref aL, .int lL])), (aL, .inl (cI, 300, .inl fL)), (nM, .inr (5, [.ref aM, .int lM_1])), (aM, .inl (cI, 300, .inl fM_1)), (oP, .inr (7, [.ref oC, .ref nB, .int ft_1])), (nB, .inr (5, [.ref aB, .int lB_1])), (aB, .inl (cI, 2400, .inl fB_1)), (oC, .inr (2, [.ref o4, .ref o5])), (o4, .inr (10, [.ref a41, .ref a42, .ref a43, .int l4])), (a41, .inl (cI, 256, .inl f41)), (a42, .inl (cI, 512, .inl f42)), (a43, .inl (cI, 512, .inl f43)), (o5, .inr (10, [.ref a51, .ref a52, .ref a53, .int l5])), (a51, .inl (cI, 256, .inl f51)), (a52, .inl (cI, 512, .inl f52)), (a53, .inl (cI, 512, .inl f53)), (oG, .inr (0, [.ref g1, .ref g2, .int gn, .int lG])), (g1, .inl (cI, 6000, .inl fG1)), (g2, .inl (cI, 20, .inl fG2)), (oW, .inr (1, [.ref oC, .ref oK, .ref nw, .ref w1, .ref w2, .ref w3, .ref o7, .ref o8, .ref o9, .ref w4, .ref w5, .ref w6, .ref w7, .int ke, .int tl, .int fsh, .int wi, .int ri, .int fm, .int lm]))]) [4, 5, 6, 7, 8, 9, 10, 11, 12, 13, 14, 15, 16, 17, 18, 19, 20, 0, 1, 2, 3] rfl
    have hD9 := hD.sub (ws' := [(oX, .inr (11, [.ref nT, .ref nL, .ref nM, .ref oC, .ref oP, .ref oH, .ref oK, .ref oG, .ref oR, .ref oQ, .ref oW, .int fa_1])), (nL, .inr (5, [.ref aL, .int lL])), (aL, .inl (cI, 300, .inl fL)), (nM, .inr (5, [.ref aM, .int lM_1])), (aM, .inl (cI, 300, .inl fM_1)), (oP, .inr (7, [.ref oC, .ref nB, .int ft_1])), (nB, .inr (5, [.ref aB, .int lB_1])), (aB, .inl (cI, 2400, .inl fB_1)), (oC, .inr (2, [.ref o4, .ref o5])), (o4, .inr (10, [.ref a41, .ref a42, .ref a43, .int l4])), (a41, .inl (cI, 256, .inl f41)), (a42, .inl (cI, 512, .inl f42)), (a43, .inl (cI, 512, .inl f43)), (o5, .inr (10, [.ref a51, .ref a52, .ref a53, .int l5])), (a51, .inl (cI, 256, .inl f51)), (a52, .inl (cI, 512, .inl f52)), (a53, .inl (cI, 512, .inl f53)), (oG, .inr (0, [.ref g1, .ref g2, .int gn, .int lG])), (g1, .inl (cI, 6000, .inl fG1)), (g2, .inl (cI, 20, .inl fG2)), (oW, .inr (1, [.ref oC, .ref oK, .ref nw, .ref w1, .ref w2, .ref w3, .ref o7, .ref o8, .ref o9, .ref w4, .ref w5, .ref w6, .ref w7, .int ke, .int tl, .int fsh, .int wi, .int ri, .int fm, .int lm]))]) [4, 5, 6, 7, 8, 9, 10, 11, 12, 13, 14, 15, 16, 17, 18, 19, 20, 0, 1, 2, 3] (by decide +kernel) rfl
    rw [hQQ]
    exact W.iret (v := (-1)) hx hb hr (fun t ht hW => ⟨⟨(-1), (-1), rfl, rfl, ⟨fa_1, ft_1, lB_1, fB_1, lM_1, fM_1, lL, fL, fsh, gn, lG, fG1, fG2, by rw [ht]; exact hP9, hD9, hf1_0, hf1_1, g_lL, g_fsh, g_gn, g_lG, g_fG2, OC_n rfl (pz_0 hf1_3 (by omega))⟩⟩, hS.F ht⟩) hS.2.2 dX11_harm_21
  · have tc_2 : ¬ r_1.toInt = 0 := v_ne c_2
    refine lv_aload_n hx hb dX11_harm_9 rfl (lv_at hl 0 rfl) ?_
    refine lv_aload_n hx hb dX11_harm_10 rfl (lv_at hl 0 rfl) ?_
    refine va_get (D := (dC, dI)) (ci := 11) (v := .ref nM) (C := RX11) (T := TX11) (N := 12) hx hb hts in_X11 hown hK hP 4 rfl rfl 2 (by decide) (hts (.fieldLink RX11 37 "TextMender" "made" "LTextMender$Numbers;") (List.mem_of_getElem? (i := 1) rfl)) (fun _ h9 => h9) rfl dX11_harm_11 ?_
    have hPc := hP.sub (ws' := [(oX, .inr (11, [.ref nT, .ref nL, .ref nM, .ref oC, .ref oP, .ref oH, .ref oK, .ref oG, .ref oR, .ref oQ, .ref oW, .int fa_1])), (nL, .inr (5, [.ref aL, .int lL])), (aL, .inl (cI, 300, .inl fL)), (nM, .inr (5, [.ref aM, .int lM_1])), (aM, .inl (cI, 300, .inl fM_1)), (oG, .inr (0, [.ref g1, .ref g2, .int gn, .int lG])), (g1, .inl (cI, 6000, .inl fG1)), (g2, .inl (cI, 20, .inl fG2)), (oW, .inr (1, [.ref oC, .ref oK, .ref nw, .ref w1, .ref w2, .ref w3, .ref o7, .ref o8, .ref o9, .ref w4, .ref w5, .ref w6, .ref w7, .int ke, .int tl, .int fsh, .int wi, .int ri, .int fm, .int lm]))]) [4, 5, 6, 7, 8, 0, 1, 2, 3] rfl
    have hDc := hD.sub (ws' := [(oX, .inr (11, [.ref nT, .ref nL, .ref nM, .ref oC, .ref oP, .ref oH, .ref oK, .ref oG, .ref oR, .ref oQ, .ref oW, .int fa_1])), (nL, .inr (5, [.ref aL, .int lL])), (aL, .inl (cI, 300, .inl fL)), (nM, .inr (5, [.ref aM, .int lM_1])), (aM, .inl (cI, 300, .inl fM_1)), (oG, .inr (0, [.ref g1, .ref g2, .int gn, .int lG])), (g1, .inl (cI, 6000, .inl fG1)), (g2, .inl (cI, 20, .inl fG2)), (oW, .inr (1, [.ref oC, .ref oK, .ref nw, .ref w1, .ref w2, .ref w3, .ref o7, .ref o8, .ref o9, .ref w4, .ref w5, .ref w6, .ref w7, .int ke, .int tl, .int fsh, .int wi, .int ri, .int fm, .int lm]))]) [4, 5, 6, 7, 8, 0, 1, 2, 3] (by decide +kernel) rfl
    have hFc := va_free (wc := [(oX, .inr (11, [.ref nT, .ref nL, .ref nM, .ref oC, .ref oP, .ref oH, .ref oK, .ref oG, .ref oR, .ref oQ, .ref oW, .int fa_1])), (nL, .inr (5, [.ref aL, .int lL])), (aL, .inl (cI, 300, .inl fL)), (nM, .inr (5, [.ref aM, .int lM_1])), (aM, .inl (cI, 300, .inl fM_1)), (oG, .inr (0, [.ref g1, .ref g2, .int gn, .int lG])), (g1, .inl (cI, 6000, .inl fG1)), (g2, .inl (cI, 20, .inl fG2)), (oW, .inr (1, [.ref oC, .ref oK, .ref nw, .ref w1, .ref w2, .ref w3, .ref o7, .ref o8, .ref o9, .ref w4, .ref w5, .ref w6, .ref w7, .int ke, .int tl, .int fsh, .int wi, .int ri, .int fm, .int lm]))]) hD hS hA [4, 5, 6, 7, 8, 0, 1, 2, 3] rfl
    refine va_calli (va_runV (As := [.ref nM]) (rest := []) ⟨hx, hb, hml, hown, hts⟩ (f_X11_bec l dC dI cI cS H.size oX nM nT nL oC oP oH oK oG oR oQ oW aL aM g1 g2 nw w1 w2 w3 o7 o8 o9 w4 w5 w6 w7 fa_1 lL fL lM_1 fM_1 gn lG fG1 fG2 ke tl fsh wi ri fm lm (g_lL) (hf1_1) (g_gn) (g_lG) (g_fG2) (g_ke) (g_fsh) (g_fm) (g_lm)) (cwV 1 hts gX11_harm_X11_become rfl rfl rfl (by decide +kernel) ⟨Nat.le_of_ble_eq_true rfl, Nat.le_of_ble_eq_true rfl⟩) ⟨fun a U g mk q => by obtain ⟨q0, q1, qP, qK, qD⟩ := q; exact ⟨q0, q1, qP, va_K.moved (u := U) (U := U.calling g mk a) (Vm.Alike.refl U.vm) qK, qD⟩, va_recv hK hPc (ci := 11) (q0 := 0) rfl rfl, fun U hU hW => ⟨rfl, by rw [hU], by rw [hU]; exact hPc, va_K.moved hW.alike hK, hDc.weaken (fun _ _ _ _ => trivial)⟩⟩ rfl rfl hl.1 rfl (lv_room (Nat.le_of_ble_eq_true rfl)) dX11_harm_14 ⟨Nat.le_of_ble_eq_true rfl, Nat.le_of_ble_eq_true rfl⟩) hS (fun q _ h => hFc q h) hFc (fun r_3 u t H1 locs ht hvm hw hB hz1 hk1 hSn => ?_)
    subst hw
    obtain ⟨lL_3, fL_3, fsh_3, gn_3, lG_3, fG1_3, fG2_3, hP1, hD1, hf3_0, hf3_1, hf3_2, hf3_3, hf3_4, hf3_5, hf3_6, hf3_7⟩ := hB
    rw [ht] at hP1
    obtain ⟨hPn, hDn⟩ := va_join (wr := [(oP, .inr (7, [.ref oC, .ref nB, .int ft_1])), (nB, .inr (5, [.ref aB, .int lB_1])), (aB, .inl (cI, 2400, .inl fB_1)), (oC, .inr (2, [.ref o4, .ref o5])), (o4, .inr (10, [.ref a41, .ref a42, .ref a43, .int l4])), (a41, .inl (cI, 256, .inl f41)), (a42, .inl (cI, 512, .inl f42)), (a43, .inl (cI, 512, .inl f43)), (o5, .inr (10, [.ref a51, .ref a52, .ref a53, .int l5])), (a51, .inl (cI, 256, .inl f51)), (a52, .inl (cI, 512, .inl f52)), (a53, .inl (cI, 512, .inl f53))]) (w1 := [(oX, .inr (11, [.ref nT, .ref nL, .ref nM, .ref oC, .ref oP, .ref oH, .ref oK, .ref oG, .ref oR, .ref oQ, .ref oW, .int fa_1])), (nL, .inr (5, [.ref aL, .int lL_3])), (aL, .inl (cI, 300, .inl fL_3)), (nM, .inr (5, [.ref aM, .int lM_1])), (aM, .inl (cI, 300, .inl fM_1)), (oG, .inr (0, [.ref g1, .ref g2, .int gn_3, .int lG_3])), (g1, .inl (cI, 6000, .inl fG1_3)), (g2, .inl (cI, 20, .inl fG2_3)), (oW, .inr (1, [.ref oC, .ref oK, .ref nw, .ref w1, .ref w2, .ref w3, .ref o7, .ref o8, .ref o9, .ref w4, .ref w5, .ref w6, .ref w7, .int ke, .int tl, .int fsh_3, .int wi, .int ri, .int fm, .int lm]))]) hP hD [4, 5, 6, 7, 8, 0, 1, 2, 3] [9, 10, 11, 12, 13, 14, 15, 16, 17, 18, 19, 20] rfl rfl (by decide +kernel) (by decide +kernel) hk1 hFc hP1 hD1
    clear hP hD hS hPc hDc hFc hk1 hz1 hvm ht hP1 hD1
    generalize H1 = H at hPn hSn ⊢
    have hP : va_P (dC, dI) vwCl [(oP, .inr (7, [.ref oC, .ref nB, .int ft_1])), (nB, .inr (5, [.ref aB, .int lB_1])), (aB, .inl (cI, 2400, .inl fB_1)), (oC, .inr (2, [.ref o4, .ref o5])), (o4, .inr (10, [.ref a41, .ref a42, .ref a43, .int l4])), (a41, .inl (cI, 256, .inl f41)), (a42, .inl (cI, 512, .inl f42)), (a43, .inl (cI, 512, .inl f43)), (o5, .inr (10, [.ref a51, .ref a52, .ref a53, .int l5])), (a51, .inl (cI, 256, .inl f51)), (a52, .inl (cI, 512, .inl f52)), (a53, .inl (cI, 512, .inl f53)), (oX, .inr (11, [.ref nT, .ref nL, .ref nM, .ref oC, .ref oP, .ref oH, .ref oK, .ref oG, .ref oR, .ref oQ, .ref oW, .int fa_1])), (nL, .inr (5, [.ref aL, .int lL_3])), (aL, .inl (cI, 300, .inl fL_3)), (nM, .inr (5, [.ref aM, .int lM_1])), (aM, .inl (cI, 300, .inl fM_1)), (oG, .inr (0, [.ref g1, .ref g2, .int gn_3, .int lG_3])), (g1, .inl (cI, 6000, .inl fG1_3)), (g2, .inl (cI, 20, .inl fG2_3)), (oW, .inr (1, [.ref oC, .ref oK, .ref nw, .ref w1, .ref w2, .ref w3, .ref o7, .ref o8, .ref o9, .ref w4, .ref w5, .ref w6, .ref w7, .int ke, .int tl, .int fsh_3, .int wi, .int ri, .int fm, .int lm]))] H := hPn
    have hD : va_D A [(oP, .inr (7, [.ref oC, .ref nB, .int ft_1])), (nB, .inr (5, [.ref aB, .int lB_1])), (aB, .inl (cI, 2400, .inl fB_1)), (oC, .inr (2, [.ref o4, .ref o5])), (o4, .inr (10, [.ref a41, .ref a42, .ref a43, .int l4])), (a41, .inl (cI, 256, .inl f41)), (a42, .inl (cI, 512, .inl f42)), (a43, .inl (cI, 512, .inl f43)), (o5, .inr (10, [.ref a51, .ref a52, .ref a53, .int l5])), (a51, .inl (cI, 256, .inl f51)), (a52, .inl (cI, 512, .inl f52)), (a53, .inl (cI, 512, .inl f53)), (oX, .inr (11, [.ref nT, .ref nL, .ref nM, .ref oC, .ref oP, .ref oH, .ref oK, .ref oG, .ref oR, .ref oQ, .ref oW, .int fa_1])), (nL, .inr (5, [.ref aL, .int lL_3])), (aL, .inl (cI, 300, .inl fL_3)), (nM, .inr (5, [.ref aM, .int lM_1])), (aM, .inl (cI, 300, .inl fM_1)), (oG, .inr (0, [.ref g1, .ref g2, .int gn_3, .int lG_3])), (g1, .inl (cI, 6000, .inl fG1_3)), (g2, .inl (cI, 20, .inl fG2_3)), (oW, .inr (1, [.ref oC, .ref oK, .ref nw, .ref w1, .ref w2, .ref w3, .ref o7, .ref o8, .ref o9, .ref w4, .ref w5, .ref w6, .ref w7, .int ke, .int tl, .int fsh_3, .int wi, .int ri, .int fm, .int lm]))] := hDn
    have hS := hSn
    clear hPn hDn hSn
    refine lv_goto (tgt := 21) hx hb dX11_harm_17 (by decide) ?_
    have hP9 := hP.sub (ws' := [(oX, .inr (11, [.ref nT, .ref nL, .ref nM, .ref oC, .ref oP, .ref oH, .ref oK, .ref oG, .ref oR, .ref oQ, .ref oW, .int fa_1])), (nL, .inr (5, [.ref aL, .int lL_3])), (aL, .inl (cI, 300, .inl fL_3)), (nM, .inr (5, [.ref aM, .int lM_1])), (aM, .inl (cI, 300, .inl fM_1)), (oP, .inr (7, [.ref oC, .ref nB, .int ft_1])), (nB, .inr (5, [.ref aB, .int lB_1])), (aB, .inl (cI, 2400, .inl fB_1)), (oC, .inr (2, [.ref o4, .ref o5])), (o4, .inr (10, [.ref a41, .ref a42, .ref a43, .int l4])), (a41, .inl (cI, 256, .inl f41)), (a42, .inl (cI, 512, .inl f42)), (a43, .inl (cI, 512, .inl f43)), (o5, .inr (10, [.ref a51, .ref a52, .ref a53, .int l5])), (a51, .inl (cI, 256, .inl f51)), (a52, .inl (cI, 512, .inl f52)), (a53, .inl (cI, 512, .inl f53)), (oG, .inr (0, [.ref g1, .ref g2, .int gn_3, .int lG_3])), (g1, .inl (cI, 6000, .inl fG1_3)), (g2, .inl (cI, 20, .inl fG2_3)), (oW, .inr (1, [.ref oC, .ref oK, .ref nw, .ref w1, .ref w2, .ref w3, .ref o7, .ref o8, .ref o9, .ref w4, .ref w5, .ref w6, .ref w7, .int ke, .int tl, .int fsh_3, .int wi, .int ri, .int fm, .int lm]))]) [12, 13, 14, 15, 16, 0, 1, 2, 3, 4, 5, 6, 7, 8, 9, 10, 11, 17, 18, 19, 20] rfl
    have hD9 := hD.sub (ws' := [(oX, .inr (11, [.ref nT, .ref nL, .ref nM, .ref oC, .ref oP, .ref oH, .ref oK, .ref oG, .ref oR, .ref oQ, .ref oW, .int fa_1])), (nL, .inr (5, [.ref aL, .int lL_3])), (aL, .inl (cI, 300, .inl fL_3)), (nM, .inr (5, [.ref aM, .int lM_1])), (aM, .inl (cI, 300, .inl fM_1)), (oP, .inr (7, [.ref oC, .ref nB, .int ft_1])), (nB, .inr (5, [.ref aB, .int lB_1])), (aB, .inl (cI, 2400, .inl fB_1)), (oC, .inr (2, [.ref o4, .ref o5])), (o4, .inr (10, [.ref a41, .ref a42, .ref a43, .int l4])), (a41, .inl (cI, 256, .inl f41)), (a42, .inl (cI, 512, .inl f42)), (a43, .inl (cI, 512, .inl f43)), (o5, .inr (10, [.ref a51, .ref a52, .ref a53, .int l5])), (a51, .inl (cI, 256, .inl f51)), (a52, .inl (cI, 512, .inl f52)), (a53, .inl (cI, 512, .inl f53)), (oG, .inr (0, [.ref g1, .ref g2, .int gn_3, .int lG_3])), (g1, .inl (cI, 6000, .inl fG1_3)), (g2, .inl (cI, 20, .inl fG2_3)), (oW, .inr (1, [.ref oC, .ref oK, .ref nw, .ref w1, .ref w2, .ref w3, .ref o7, .ref o8, .ref o9, .ref w4, .ref w5, .ref w6, .ref w7, .int ke, .int tl, .int fsh_3, .int wi, .int ri, .int fm, .int lm]))]) [12, 13, 14, 15, 16, 0, 1, 2, 3, 4, 5, 6, 7, 8, 9, 10, 11, 17, 18, 19, 20] (by decide +kernel) rfl
    rw [hQQ]
    exact W.iret (v := r_3) hx hb hr (fun t ht hW => ⟨⟨r_3, r_3, rfl, rfl, ⟨fa_1, ft_1, lB_1, fB_1, lM_1, fM_1, lL_3, fL_3, fsh_3, gn_3, lG_3, fG1_3, fG2_3, by rw [ht]; exact hP9, hD9, hf1_0, hf1_1, hf3_0, hf3_1, hf3_2, hf3_3, hf3_4, OC_y ((pz_1 hf1_3 (by omega)).imp (fun c hc => ⟨hc.1, hc.2 _ (by omega)⟩)) hf3_6 hf3_7⟩⟩, hS.F ht⟩) hS.2.2 dX11_harm_21

set_option maxHeartbeats 40000000 in
set_option maxRecDepth 100000 in
theorem f_X11_undo (l : Launch) (dC : Nat → ClassId) (dI : Nat → Nat → Nat) (cI cS : ClassId) (sz : Nat) (oX : Nat) (nT : Nat) (nL : Nat) (nM : Nat) (oC : Nat) (oP : Nat) (oH : Nat) (oK : Nat) (oG : Nat) (oR : Nat) (oQ : Nat) (oW : Nat) (aL : Nat) (aM : Nat) (nB : Nat) (aB : Nat) (o4 : Nat) (o5 : Nat) (a41 : Nat) (a42 : Nat) (a43 : Nat) (a51 : Nat) (a52 : Nat) (a53 : Nat) (g1 : Nat) (g2 : Nat) (nw : Nat) (w1 : Nat) (w2 : Nat) (w3 : Nat) (o7 : Nat) (o8 : Nat) (o9 : Nat) (w4 : Nat) (w5 : Nat) (w6 : Nat) (w7 : Nat) (fa : Int32) (lL : Int32) (fL : Nat → Int32) (lM : Int32) (fM : Nat → Int32) (ft : Int32) (lB : Int32) (fB : Nat → Int32) (l4 : Int32) (f41 : Nat → Int32) (f42 : Nat → Int32) (f43 : Nat → Int32) (l5 : Int32) (f51 : Nat → Int32) (f52 : Nat → Int32) (f53 : Nat → Int32) (gn : Int32) (lG : Int32) (fG1 : Nat → Int32) (fG2 : Nat → Int32) (ke : Int32) (tl : Int32) (fsh : Int32) (wi : Int32) (ri : Int32) (fm : Int32) (lm : Int32) (a : Int32) (b : Int32) (g_lL : 0 ≤ lL.toInt ∧ lL.toInt ≤ 300) (g_lM : 0 ≤ lM.toInt ∧ lM.toInt ≤ 300) (g_lB : 0 ≤ lB.toInt ∧ lB.toInt ≤ 2400) (g_gn : 0 ≤ gn.toInt ∧ gn.toInt ≤ 19) (g_lG : 0 ≤ lG.toInt ∧ lG.toInt ≤ 20) (g_fG2 : rg 0 300 fG2) (g_ke : 0 ≤ ke.toInt ∧ ke.toInt ≤ 200) (g_fsh : 0 ≤ fsh.toInt ∧ fsh.toInt ≤ 1) (g_fm : -1 ≤ fm.toInt ∧ fm.toInt ≤ 800) (g_lm : -1 ≤ lm.toInt ∧ lm.toInt ≤ 800) (hlt : prg lL.toInt 0 65535 fL) (hT4 : HT 512 511 hsT f42 f43) (ho4 : (occ f43 512 : Int) ≤ 511) (hT5 : HT 512 511 hsT f52 f53) (ho5 : (occ f53 512 : Int) ≤ 511) (hL4 : prg 256 (-1) 65535 f41) (hL5 : prg 256 (-1) 65535 f51) (hBr : ∀ cd : Int32, okB (Bc cd f42 f43 f52 f53)) : Met l yX11_undo wsX11_undo ({ frames := 6, cells := 0, slots := 0, locals := 147 } : Room) (va_Pc [.ref oX, .int a, .int b] (fun U => U.heap.size = sz ∧ va_P (dC, dI) vwCl [(oX, .inr (11, [.ref nT, .ref nL, .ref nM, .ref oC, .ref oP, .ref oH, .ref oK, .ref oG, .ref oR, .ref oQ, .ref oW, .int fa])), (nL, .inr (5, [.ref aL, .int lL])), (aL, .inl (cI, 300, .inl fL)), (nM, .inr (5, [.ref aM, .int lM])), (aM, .inl (cI, 300, .inl fM)), (oP, .inr (7, [.ref oC, .ref nB, .int ft])), (nB, .inr (5, [.ref aB, .int lB])), (aB, .inl (cI, 2400, .inl fB)), (oC, .inr (2, [.ref o4, .ref o5])), (o4, .inr (10, [.ref a41, .ref a42, .ref a43, .int l4])), (a41, .inl (cI, 256, .inl f41)), (a42, .inl (cI, 512, .inl f42)), (a43, .inl (cI, 512, .inl f43)), (o5, .inr (10, [.ref a51, .ref a52, .ref a53, .int l5])), (a51, .inl (cI, 256, .inl f51)), (a52, .inl (cI, 512, .inl f52)), (a53, .inl (cI, 512, .inl f53)), (oG, .inr (0, [.ref g1, .ref g2, .int gn, .int lG])), (g1, .inl (cI, 6000, .inl fG1)), (g2, .inl (cI, 20, .inl fG2)), (oW, .inr (1, [.ref oC, .ref oK, .ref nw, .ref w1, .ref w2, .ref w3, .ref o7, .ref o8, .ref o9, .ref w4, .ref w5, .ref w6, .ref w7, .int ke, .int tl, .int fsh, .int wi, .int ri, .int fm, .int lm]))] U.heap ∧ va_K (dC, dI) vwCl [(cI, .int), (cS, .short)] U ∧ va_D (fun _ => True) [(oX, .inr (11, [.ref nT, .ref nL, .ref nM, .ref oC, .ref oP, .ref oH, .ref oK, .ref oG, .ref oR, .ref oQ, .ref oW, .int fa])), (nL, .inr (5, [.ref aL, .int lL])), (aL, .inl (cI, 300, .inl fL)), (nM, .inr (5, [.ref aM, .int lM])), (aM, .inl (cI, 300, .inl fM)), (oP, .inr (7, [.ref oC, .ref nB, .int ft])), (nB, .inr (5, [.ref aB, .int lB])), (aB, .inl (cI, 2400, .inl fB)), (oC, .inr (2, [.ref o4, .ref o5])), (o4, .inr (10, [.ref a41, .ref a42, .ref a43, .int l4])), (a41, .inl (cI, 256, .inl f41)), (a42, .inl (cI, 512, .inl f42)), (a43, .inl (cI, 512, .inl f43)), (o5, .inr (10, [.ref a51, .ref a52, .ref a53, .int l5])), (a51, .inl (cI, 256, .inl f51)), (a52, .inl (cI, 512, .inl f52)), (a53, .inl (cI, 512, .inl f53)), (oG, .inr (0, [.ref g1, .ref g2, .int gn, .int lG])), (g1, .inl (cI, 6000, .inl fG1)), (g2, .inl (cI, 20, .inl fG2)), (oW, .inr (1, [.ref oC, .ref oK, .ref nw, .ref w1, .ref w2, .ref w3, .ref o7, .ref o8, .ref o9, .ref w4, .ref w5, .ref w6, .ref w7, .int ke, .int tl, .int fsh, .int wi, .int ri, .int fm, .int lm]))] ∧ va_Nw (.methodLinkNest RX2 52 yX11_isLetter "TextMender") U)) (va_Qi (fun (r : Int32) (u : Int32) => r = u) (fun (r : Int32) t => ∃ (fa' : Int32) (ft' : Int32) (lB' : Int32) (fB' : Nat → Int32) (lM' : Int32) (fM' : Nat → Int32) (lL' : Int32) (fL' : Nat → Int32) (fsh' : Int32) (gn' : Int32) (lG' : Int32) (fG1' : Nat → Int32) (fG2' : Nat → Int32), va_P (dC, dI) vwCl [(oX, .inr (11, [.ref nT, .ref nL, .ref nM, .ref oC, .ref oP, .ref oH, .ref oK, .ref oG, .ref oR, .ref oQ, .ref oW, .int fa'])), (nL, .inr (5, [.ref aL, .int lL'])), (aL, .inl (cI, 300, .inl fL')), (nM, .inr (5, [.ref aM, .int lM'])), (aM, .inl (cI, 300, .inl fM')), (oP, .inr (7, [.ref oC, .ref nB, .int ft'])), (nB, .inr (5, [.ref aB, .int lB'])), (aB, .inl (cI, 2400, .inl fB')), (oC, .inr (2, [.ref o4, .ref o5])), (o4, .inr (10, [.ref a41, .ref a42, .ref a43, .int l4])), (a41, .inl (cI, 256, .inl f41)), (a42, .inl (cI, 512, .inl f42)), (a43, .inl (cI, 512, .inl f43)), (o5, .inr (10, [.ref a51, .ref a52, .ref a53, .int l5])), (a51, .inl (cI, 256, .inl f51)), (a52, .inl (cI, 512, .inl f52)), (a53, .inl (cI, 512, .inl f53)), (oG, .inr (0, [.ref g1, .ref g2, .int gn', .int lG'])), (g1, .inl (cI, 6000, .inl fG1')), (g2, .inl (cI, 20, .inl fG2')), (oW, .inr (1, [.ref oC, .ref oK, .ref nw, .ref w1, .ref w2, .ref w3, .ref o7, .ref o8, .ref o9, .ref w4, .ref w5, .ref w6, .ref w7, .int ke, .int tl, .int fsh', .int wi, .int ri, .int fm, .int lm]))] t.heap ∧ va_D (va_A [(oX, .inr (11, [.ref nT, .ref nL, .ref nM, .ref oC, .ref oP, .ref oH, .ref oK, .ref oG, .ref oR, .ref oQ, .ref oW, .int fa])), (nL, .inr (5, [.ref aL, .int lL])), (aL, .inl (cI, 300, .inl fL)), (nM, .inr (5, [.ref aM, .int lM])), (aM, .inl (cI, 300, .inl fM)), (oP, .inr (7, [.ref oC, .ref nB, .int ft])), (nB, .inr (5, [.ref aB, .int lB])), (aB, .inl (cI, 2400, .inl fB)), (oC, .inr (2, [.ref o4, .ref o5])), (o4, .inr (10, [.ref a41, .ref a42, .ref a43, .int l4])), (a41, .inl (cI, 256, .inl f41)), (a42, .inl (cI, 512, .inl f42)), (a43, .inl (cI, 512, .inl f43)), (o5, .inr (10, [.ref a51, .ref a52, .ref a53, .int l5])), (a51, .inl (cI, 256, .inl f51)), (a52, .inl (cI, 512, .inl f52)), (a53, .inl (cI, 512, .inl f53)), (oG, .inr (0, [.ref g1, .ref g2, .int gn, .int lG])), (g1, .inl (cI, 6000, .inl fG1)), (g2, .inl (cI, 20, .inl fG2)), (oW, .inr (1, [.ref oC, .ref oK, .ref nw, .ref w1, .ref w2, .ref w3, .ref o7, .ref o8, .ref o9, .ref w4, .ref w5, .ref w6, .ref w7, .int ke, .int tl, .int fsh, .int wi, .int ri, .int fm, .int lm]))] sz) [(oX, .inr (11, [.ref nT, .ref nL, .ref nM, .ref oC, .ref oP, .ref oH, .ref oK, .ref oG, .ref oR, .ref oQ, .ref oW, .int fa'])), (nL, .inr (5, [.ref aL, .int lL'])), (aL, .inl (cI, 300, .inl fL')), (nM, .inr (5, [.ref aM, .int lM'])), (aM, .inl (cI, 300, .inl fM')), (oP, .inr (7, [.ref oC, .ref nB, .int ft'])), (nB, .inr (5, [.ref aB, .int lB'])), (aB, .inl (cI, 2400, .inl fB')), (oC, .inr (2, [.ref o4, .ref o5])), (o4, .inr (10, [.ref a41, .ref a42, .ref a43, .int l4])), (a41, .inl (cI, 256, .inl f41)), (a42, .inl (cI, 512, .inl f42)), (a43, .inl (cI, 512, .inl f43)), (o5, .inr (10, [.ref a51, .ref a52, .ref a53, .int l5])), (a51, .inl (cI, 256, .inl f51)), (a52, .inl (cI, 512, .inl f52)), (a53, .inl (cI, 512, .inl f53)), (oG, .inr (0, [.ref g1, .ref g2, .int gn', .int lG'])), (g1, .inl (cI, 6000, .inl fG1')), (g2, .inl (cI, 20, .inl fG2')), (oW, .inr (1, [.ref oC, .ref oK, .ref nw, .ref w1, .ref w2, .ref w3, .ref o7, .ref o8, .ref o9, .ref w4, .ref w5, .ref w6, .ref w7, .int ke, .int tl, .int fsh', .int wi, .int ri, .int fm, .int lm]))] ∧ (0 ≤ lB'.toInt ∧ lB'.toInt ≤ 2400) ∧ (0 ≤ lM'.toInt ∧ lM'.toInt ≤ 300) ∧ (0 ≤ lL'.toInt ∧ lL'.toInt ≤ 300) ∧ (0 ≤ fsh'.toInt ∧ fsh'.toInt ≤ 1) ∧ (0 ≤ gn'.toInt ∧ gn'.toInt ≤ 19) ∧ (0 ≤ lG'.toInt ∧ lG'.toInt ≤ 20) ∧ (rg 0 300 fG2') ∧ (OC (-1) r fsh fsh' gn gn' lG lG' lL lL' fG1 fG1' fG2 fG2' fL fL' (hmP b a f41 f51 (Bc b f42 f43 f52 f53) lL.toInt fL))) (va_A [(oX, .inr (11, [.ref nT, .ref nL, .ref nM, .ref oC, .ref oP, .ref oH, .ref oK, .ref oG, .ref oR, .ref oQ, .ref oW, .int fa])), (nL, .inr (5, [.ref aL, .int lL])), (aL, .inl (cI, 300, .inl fL)), (nM, .inr (5, [.ref aM, .int lM])), (aM, .inl (cI, 300, .inl fM)), (oP, .inr (7, [.ref oC, .ref nB, .int ft])), (nB, .inr (5, [.ref aB, .int lB])), (aB, .inl (cI, 2400, .inl fB)), (oC, .inr (2, [.ref o4, .ref o5])), (o4, .inr (10, [.ref a41, .ref a42, .ref a43, .int l4])), (a41, .inl (cI, 256, .inl f41)), (a42, .inl (cI, 512, .inl f42)), (a43, .inl (cI, 512, .inl f43)), (o5, .inr (10, [.ref a51, .ref a52, .ref a53, .int l5])), (a51, .inl (cI, 256, .inl f51)), (a52, .inl (cI, 512, .inl f52)), (a53, .inl (cI, 512, .inl f53)), (oG, .inr (0, [.ref g1, .ref g2, .int gn, .int lG])), (g1, .inl (cI, 6000, .inl fG1)), (g2, .inl (cI, 20, .inl fG2)), (oW, .inr (1, [.ref oC, .ref oK, .ref nw, .ref w1, .ref w2, .ref w3, .ref o7, .ref o8, .ref o9, .ref w4, .ref w5, .ref w6, .ref w7, .int ke, .int tl, .int fsh, .int wi, .int ri, .int fm, .int lm]))] sz)) 0 0 (va_A [(oX, .inr (11, [.ref nT, .ref nL, .ref nM, .ref oC, .ref oP, .ref oH, .ref oK, .ref oG, .ref oR, .ref oQ, .ref oW, .int fa])), (nL, .inr (5, [.ref aL, .int lL])), (aL, .inl (cI, 300, .inl fL)), (nM, .inr (5, [.ref aM, .int lM])), (aM, .inl (cI, 300, .inl fM)), (oP, .inr (7, [.ref oC, .ref nB, .int ft])), (nB, .inr (5, [.ref aB, .int lB])), (aB, .inl (cI, 2400, .inl fB)), (oC, .inr (2, [.ref o4, .ref o5])), (o4, .inr (10, [.ref a41, .ref a42, .ref a43, .int l4])), (a41, .inl (cI, 256, .inl f41)), (a42, .inl (cI, 512, .inl f42)), (a43, .inl (cI, 512, .inl f43)), (o5, .inr (10, [.ref a51, .ref a52, .ref a53, .int l5])), (a51, .inl (cI, 256, .inl f51)), (a52, .inl (cI, 512, .inl f52)), (a53, .inl (cI, 512, .inl f53)), (oG, .inr (0, [.ref g1, .ref g2, .int gn, .int lG])), (g1, .inl (cI, 6000, .inl fG1)), (g2, .inl (cI, 20, .inl fG2)), (oW, .inr (1, [.ref oC, .ref oK, .ref nw, .ref w1, .ref w2, .ref w3, .ref o7, .ref o8, .ref o9, .ref w4, .ref w5, .ref w6, .ref w7, .int ke, .int tl, .int fsh, .int wi, .int ri, .int fm, .int lm]))] sz) := by
  refine Met.ofW (cc := cX11_undo) (maxL := 3) (ret := (some .int)) (by decide) rfl ?_
  intro p e s m args below meth c s₁ B hml hv
  obtain ⟨rfl, hsz, hP, hK, hD0, hN52⟩ := hv
  have hx := B.exec
  have hb := B.bytes
  have hr := B.returns
  have hts := atoms_spec (ws := wsX11_undo) B.pre
  have hown : s.vm.findClass RX11 = some m.cls := findClass_of_methodNamed B.named
  have hlocks := B.notSynchronized
  have in_X11 : ∀ w ∈ wsX110, w ∈ wsX11_undo := fun _ h => List.mem_cons_of_mem _ (List.mem_append_left _ (List.mem_append_left _ (List.mem_append_left _ (List.mem_append_left _ (List.mem_append_left _ (List.mem_append_left _ (List.mem_append_right _ (h))))))))
  subst hsz
  have hD := hD0.self (sz := s.heap.size)
  generalize hAe : va_A [(oX, .inr (11, [.ref nT, .ref nL, .ref nM, .ref oC, .ref oP, .ref oH, .ref oK, .ref oG, .ref oR, .ref oQ, .ref oW, .int fa])), (nL, .inr (5, [.ref aL, .int lL])), (aL, .inl (cI, 300, .inl fL)), (nM, .inr (5, [.ref aM, .int lM])), (aM, .inl (cI, 300, .inl fM)), (oP, .inr (7, [.ref oC, .ref nB, .int ft])), (nB, .inr (5, [.ref aB, .int lB])), (aB, .inl (cI, 2400, .inl fB)), (oC, .inr (2, [.ref o4, .ref o5])), (o4, .inr (10, [.ref a41, .ref a42, .ref a43, .int l4])), (a41, .inl (cI, 256, .inl f41)), (a42, .inl (cI, 512, .inl f42)), (a43, .inl (cI, 512, .inl f43)), (o5, .inr (10, [.ref a51, .ref a52, .ref a53, .int l5])), (a51, .inl (cI, 256, .inl f51)), (a52, .inl (cI, 512, .inl f52)), (a53, .inl (cI, 512, .inl f53)), (oG, .inr (0, [.ref g1, .ref g2, .int gn, .int lG])), (g1, .inl (cI, 6000, .inl fG1)), (g2, .inl (cI, 20, .inl fG2)), (oW, .inr (1, [.ref oC, .ref oK, .ref nw, .ref w1, .ref w2, .ref w3, .ref o7, .ref o8, .ref o9, .ref w4, .ref w5, .ref w6, .ref w7, .int ke, .int tl, .int fsh, .int wi, .int ri, .int fm, .int lm]))] s.heap.size = A at hD ⊢
  have hA : ∀ q : Nat, s.heap.size ≤ q → A q := fun q h => by rw [← hAe]; exact Or.inr h
  have hS : va_S A s.heap s.heap [] := va_S.rf
  have hP : va_P (dC, dI) vwCl [(oX, .inr (11, [.ref nT, .ref nL, .ref nM, .ref oC, .ref oP, .ref oH, .ref oK, .ref oG, .ref oR, .ref oQ, .ref oW, .int fa])), (nL, .inr (5, [.ref aL, .int lL])), (aL, .inl (cI, 300, .inl fL)), (nM, .inr (5, [.ref aM, .int lM])), (aM, .inl (cI, 300, .inl fM)), (oP, .inr (7, [.ref oC, .ref nB, .int ft])), (nB, .inr (5, [.ref aB, .int lB])), (aB, .inl (cI, 2400, .inl fB)), (oC, .inr (2, [.ref o4, .ref o5])), (o4, .inr (10, [.ref a41, .ref a42, .ref a43, .int l4])), (a41, .inl (cI, 256, .inl f41)), (a42, .inl (cI, 512, .inl f42)), (a43, .inl (cI, 512, .inl f43)), (o5, .inr (10, [.ref a51, .ref a52, .ref a53, .int l5])), (a51, .inl (cI, 256, .inl f51)), (a52, .inl (cI, 512, .inl f52)), (a53, .inl (cI, 512, .inl f53)), (oG, .inr (0, [.ref g1, .ref g2, .int gn, .int lG])), (g1, .inl (cI, 6000, .inl fG1)), (g2, .inl (cI, 20, .inl fG2)), (oW, .inr (1, [.ref oC, .ref oK, .ref nw, .ref w1, .ref w2, .ref w3, .ref o7, .ref o8, .ref o9, .ref w4, .ref w5, .ref w6, .ref w7, .int ke, .int tl, .int fsh, .int wi, .int ri, .int fm, .int lm]))] s.heap := hP
  have hl := lv_entry ([.ref oX, .int a, .int b]) (n := 3) (Nat.le_of_ble_eq_true rfl)
  rw [lg_entry_eq]
  generalize (lg_sl ([.ref oX, .int a, .int b]) ++ List.replicate (3 - (lg_sl ([.ref oX, .int a, .int b])).length) Slot.unset).toArray = ls at hl ⊢
  have hl : lv_has ls 3 [(0, .ref oX), (1, .int a), (2, .int b)] := hl
  obtain ⟨QQ, hQQ⟩ : ∃ QQ : Array Value → State → Outcome → State → Prop, QQ = va_Qi (fun (r : Int32) (u : Int32) => r = u) (fun (r : Int32) t => ∃ (fa' : Int32) (ft' : Int32) (lB' : Int32) (fB' : Nat → Int32) (lM' : Int32) (fM' : Nat → Int32) (lL' : Int32) (fL' : Nat → Int32) (fsh' : Int32) (gn' : Int32) (lG' : Int32) (fG1' : Nat → Int32) (fG2' : Nat → Int32), va_P (dC, dI) vwCl [(oX, .inr (11, [.ref nT, .ref nL, .ref nM, .ref oC, .ref oP, .ref oH, .ref oK, .ref oG, .ref oR, .ref oQ, .ref oW, .int fa'])), (nL, .inr (5, [.ref aL, .int lL'])), (aL, .inl (cI, 300, .inl fL')), (nM, .inr (5, [.ref aM, .int lM'])), (aM, .inl (cI, 300, .inl fM')), (oP, .inr (7, [.ref oC, .ref nB, .int ft'])), (nB, .inr (5, [.ref aB, .int lB'])), (aB, .inl (cI, 2400, .inl fB')), (oC, .inr (2, [.ref o4, .ref o5])), (o4, .inr (10, [.ref a41, .ref a42, .ref a43, .int l4])), (a41, .inl (cI, 256, .inl f41)), (a42, .inl (cI, 512, .inl f42)), (a43, .inl (cI, 512, .inl f43)), (o5, .inr (10, [.ref a51, .ref a52, .ref a53, .int l5])), (a51, .inl (cI, 256, .inl f51)), (a52, .inl (cI, 512, .inl f52)), (a53, .inl (cI, 512, .inl f53)), (oG, .inr (0, [.ref g1, .ref g2, .int gn', .int lG'])), (g1, .inl (cI, 6000, .inl fG1')), (g2, .inl (cI, 20, .inl fG2')), (oW, .inr (1, [.ref oC, .ref oK, .ref nw, .ref w1, .ref w2, .ref w3, .ref o7, .ref o8, .ref o9, .ref w4, .ref w5, .ref w6, .ref w7, .int ke, .int tl, .int fsh', .int wi, .int ri, .int fm, .int lm]))] t.heap ∧ va_D A [(oX, .inr (11, [.ref nT, .ref nL, .ref nM, .ref oC, .ref oP, .ref oH, .ref oK, .ref oG, .ref oR, .ref oQ, .ref oW, .int fa'])), (nL, .inr (5, [.ref aL, .int lL'])), (aL, .inl (cI, 300, .inl fL')), (nM, .inr (5, [.ref aM, .int lM'])), (aM, .inl (cI, 300, .inl fM')), (oP, .inr (7, [.ref oC, .ref nB, .int ft'])), (nB, .inr (5, [.ref aB, .int lB'])), (aB, .inl (cI, 2400, .inl fB')), (oC, .inr (2, [.ref o4, .ref o5])), (o4, .inr (10, [.ref a41, .ref a42, .ref a43, .int l4])), (a41, .inl (cI, 256, .inl f41)), (a42, .inl (cI, 512, .inl f42)), (a43, .inl (cI, 512, .inl f43)), (o5, .inr (10, [.ref a51, .ref a52, .ref a53, .int l5])), (a51, .inl (cI, 256, .inl f51)), (a52, .inl (cI, 512, .inl f52)), (a53, .inl (cI, 512, .inl f53)), (oG, .inr (0, [.ref g1, .ref g2, .int gn', .int lG'])), (g1, .inl (cI, 6000, .inl fG1')), (g2, .inl (cI, 20, .inl fG2')), (oW, .inr (1, [.ref oC, .ref oK, .ref nw, .ref w1, .ref w2, .ref w3, .ref o7, .ref o8, .ref o9, .ref w4, .ref w5, .ref w6, .ref w7, .int ke, .int tl, .int fsh', .int wi, .int ri, .int fm, .int lm]))] ∧ (0 ≤ lB'.toInt ∧ lB'.toInt ≤ 2400) ∧ (0 ≤ lM'.toInt ∧ lM'.toInt ≤ 300) ∧ (0 ≤ lL'.toInt ∧ lL'.toInt ≤ 300) ∧ (0 ≤ fsh'.toInt ∧ fsh'.toInt ≤ 1) ∧ (0 ≤ gn'.toInt ∧ gn'.toInt ≤ 19) ∧ (0 ≤ lG'.toInt ∧ lG'.toInt ≤ 20) ∧ (rg 0 300 fG2') ∧ (OC (-1) r fsh fsh' gn gn' lG lG' lL lL' fG1 fG1' fG2 fG2' fL fL' (hmP b a f41 f51 (Bc b f42 f43 f52 f53) lL.toInt fL))) A := ⟨_, rfl⟩
  rw [← hQQ]
  refine lv_aload_n hx hb dX11_undo_0 rfl (lv_at hl 0 rfl) ?_
  refine lv_iload_n hx hb dX11_undo_1 rfl (lv_at hl 2 rfl) ?_
  refine lv_iload_n hx hb dX11_undo_2 rfl (lv_at hl 1 rfl) ?_
  have hPc := hP.sub (ws' := [(oX, .inr (11, [.ref nT, .ref nL, .ref nM, .ref oC, .ref oP, .ref oH, .ref oK, .ref oG, .ref oR, .ref oQ, .ref oW, .int fa])), (nL, .inr (5, [.ref aL, .int lL])), (aL, .inl (cI, 300, .inl fL)), (nM, .inr (5, [.ref aM, .int lM])), (aM, .inl (cI, 300, .inl fM)), (oP, .inr (7, [.ref oC, .ref nB, .int ft])), (nB, .inr (5, [.ref aB, .int lB])), (aB, .inl (cI, 2400, .inl fB)), (oC, .inr (2, [.ref o4, .ref o5])), (o4, .inr (10, [.ref a41, .ref a42, .ref a43, .int l4])), (a41, .inl (cI, 256, .inl f41)), (a42, .inl (cI, 512, .inl f42)), (a43, .inl (cI, 512, .inl f43)), (o5, .inr (10, [.ref a51, .ref a52, .ref a53, .int l5])), (a51, .inl (cI, 256, .inl f51)), (a52, .inl (cI, 512, .inl f52)), (a53, .inl (cI, 512, .inl f53))]) [0, 1, 2, 3, 4, 5, 6, 7, 8, 9, 10, 11, 12, 13, 14, 15, 16] rfl
  have hDc := hD.sub (ws' := [(oX, .inr (11, [.ref nT, .ref nL, .ref nM, .ref oC, .ref oP, .ref oH, .ref oK, .ref oG, .ref oR, .ref oQ, .ref oW, .int fa])), (nL, .inr (5, [.ref aL, .int lL])), (aL, .inl (cI, 300, .inl fL)), (nM, .inr (5, [.ref aM, .int lM])), (aM, .inl (cI, 300, .inl fM)), (oP, .inr (7, [.ref oC, .ref nB, .int ft])), (nB, .inr (5, [.ref aB, .int lB])), (aB, .inl (cI, 2400, .inl fB)), (oC, .inr (2, [.ref o4, .ref o5])), (o4, .inr (10, [.ref a41, .ref a42, .ref a43, .int l4])), (a41, .inl (cI, 256, .inl f41)), (a42, .inl (cI, 512, .inl f42)), (a43, .inl (cI, 512, .inl f43)), (o5, .inr (10, [.ref a51, .ref a52, .ref a53, .int l5])), (a51, .inl (cI, 256, .inl f51)), (a52, .inl (cI, 512, .inl f52)), (a53, .inl (cI, 512, .inl f53))]) [0, 1, 2, 3, 4, 5, 6, 7, 8, 9, 10, 11, 12, 13, 14, 15, 16] (by decide +kernel) rfl
  have hFc := va_free (wc := [(oX, .inr (11, [.ref nT, .ref nL, .ref nM, .ref oC, .ref oP, .ref oH, .ref oK, .ref oG, .ref oR, .ref oQ, .ref oW, .int fa])), (nL, .inr (5, [.ref aL, .int lL])), (aL, .inl (cI, 300, .inl fL)), (nM, .inr (5, [.ref aM, .int lM])), (aM, .inl (cI, 300, .inl fM)), (oP, .inr (7, [.ref oC, .ref nB, .int ft])), (nB, .inr (5, [.ref aB, .int lB])), (aB, .inl (cI, 2400, .inl fB)), (oC, .inr (2, [.ref o4, .ref o5])), (o4, .inr (10, [.ref a41, .ref a42, .ref a43, .int l4])), (a41, .inl (cI, 256, .inl f41)), (a42, .inl (cI, 512, .inl f42)), (a43, .inl (cI, 512, .inl f43)), (o5, .inr (10, [.ref a51, .ref a52, .ref a53, .int l5])), (a51, .inl (cI, 256, .inl f51)), (a52, .inl (cI, 512, .inl f52)), (a53, .inl (cI, 512, .inl f53))]) hD hS hA [0, 1, 2, 3, 4, 5, 6, 7, 8, 9, 10, 11, 12, 13, 14, 15, 16] rfl
  refine va_calli (va_runV (As := [.int b, .int a]) (rest := []) ⟨hx, hb, hml, hown, hts⟩ (f_X11_passes l dC dI cI cS s.heap.size oX nT nL nM oC oP oH oK oG oR oQ oW aL aM nB aB o4 o5 a41 a42 a43 a51 a52 a53 fa lL fL lM fM ft lB fB l4 f41 f42 f43 l5 f51 f52 f53 b a (g_lL) (g_lM) (g_lB) (hlt) (hT4) (by omega) (hT5) (by omega) (hL4) (hL5) (hBr)) (cwV 2 hts gX11_undo_X11_passes rfl rfl rfl (by decide +kernel) ⟨Nat.le_of_ble_eq_true rfl, Nat.le_of_ble_eq_true rfl⟩) ⟨fun a U g mk q => by obtain ⟨q0, q1, qP, qK, qD, qN0⟩ := q; exact ⟨q0, q1, qP, va_K.moved (u := U) (U := U.calling g mk a) (Vm.Alike.refl U.vm) qK, qD, va_Nw.same rfl rfl qN0⟩, va_recv hK hPc (ci := 11) (q0 := 0) rfl rfl, fun U hU hW => ⟨rfl, by rw [hU], by rw [hU]; exact hPc, va_K.moved hW.alike hK, hDc.weaken (fun _ _ _ _ => trivial), va_Nw.warmM hW hN52⟩⟩ rfl rfl hl.1 rfl (lv_room (Nat.le_of_ble_eq_true rfl)) dX11_undo_3 ⟨Nat.le_of_ble_eq_true rfl, Nat.le_of_ble_eq_true rfl⟩) hS (fun q _ h => hFc q h) hFc (fun r_1 u t H1 locs ht hvm hw hB hz1 hk1 hSn => ?_)
  subst hw
  obtain ⟨fa_1, ft_1, lB_1, fB_1, lM_1, fM_1, hP1, hD1, hf1_0, hf1_1, hf1_2, hf1_3⟩ := hB
  rw [ht] at hP1
  obtain ⟨hPn, hDn⟩ := va_join (wr := [(oG, .inr (0, [.ref g1, .ref g2, .int gn, .int lG])), (g1, .inl (cI, 6000, .inl fG1)), (g2, .inl (cI, 20, .inl fG2)), (oW, .inr (1, [.ref oC, .ref oK, .ref nw, .ref w1, .ref w2, .ref w3, .ref o7, .ref o8, .ref o9, .ref w4, .ref w5, .ref w6, .ref w7, .int ke, .int tl, .int fsh, .int wi, .int ri, .int fm, .int lm]))]) (w1 := [(oX, .inr (11, [.ref nT, .ref nL, .ref nM, .ref oC, .ref oP, .ref oH, .ref oK, .ref oG, .ref oR, .ref oQ, .ref oW, .int fa_1])), (nL, .inr (5, [.ref aL, .int lL])), (aL, .inl (cI, 300, .inl fL)), (nM, .inr (5, [.ref aM, .int lM_1])), (aM, .inl (cI, 300, .inl fM_1)), (oP, .inr (7, [.ref oC, .ref nB, .int ft_1])), (nB, .inr (5, [.ref aB, .int lB_1])), (aB, .inl (cI, 2400, .inl fB_1)), (oC, .inr (2, [.ref o4, .ref o5])), (o4, .inr (10, [.ref a41, .ref a42, .ref a43, .int l4])), (a41, .inl (cI, 256, .inl f41)), (a42, .inl (cI, 512, .inl f42)), (a43, .inl (cI, 512, .inl f43)), (o5, .inr (10, [.ref a51, .ref a52, .ref a53, .int l5])), (a51, .inl (cI, 256, .inl f51)), (a52, .inl (cI, 512, .inl f52)), (a53, .inl (cI, 512, .inl f53))]) hP hD [0, 1, 2, 3, 4, 5, 6, 7, 8, 9, 10, 11, 12, 13, 14, 15, 16] [17, 18, 19, 20] rfl rfl (by decide +kernel) (by decide +kernel) hk1 hFc hP1 hD1
  clear hP hD hS hPc hDc hFc hk1 hz1 hvm ht hP1 hD1
  generalize H1 = H at hPn hSn ⊢
  have hP : va_P (dC, dI) vwCl [(oG, .inr (0, [.ref g1, .ref g2, .int gn, .int lG])), (g1, .inl (cI, 6000, .inl fG1)), (g2, .inl (cI, 20, .inl fG2)), (oW, .inr (1, [.ref oC, .ref oK, .ref nw, .ref w1, .ref w2, .ref w3, .ref o7, .ref o8, .ref o9, .ref w4, .ref w5, .ref w6, .ref w7, .int ke, .int tl, .int fsh, .int wi, .int ri, .int fm, .int lm])), (oX, .inr (11, [.ref nT, .ref nL, .ref nM, .ref oC, .ref oP, .ref oH, .ref oK, .ref oG, .ref oR, .ref oQ, .ref oW, .int fa_1])), (nL, .inr (5, [.ref aL, .int lL])), (aL, .inl (cI, 300, .inl fL)), (nM, .inr (5, [.ref aM, .int lM_1])), (aM, .inl (cI, 300, .inl fM_1)), (oP, .inr (7, [.ref oC, .ref nB, .int ft_1])), (nB, .inr (5, [.ref aB, .int lB_1])), (aB, .inl (cI, 2400, .inl fB_1)), (oC, .inr (2, [.ref o4, .ref o5])), (o4, .inr (10, [.ref a41, .ref a42, .ref a43, .int l4])), (a41, .inl (cI, 256, .inl f41)), (a42, .inl (cI, 512, .inl f42)), (a43, .inl (cI, 512, .inl f43)), (o5, .inr (10, [.ref a51, .ref a52, .ref a53, .int l5])), (a51, .inl (cI, 256, .inl f51)), (a52, .inl (cI, 512, .inl f52)), (a53, .inl (cI, 512, .inl f53))] H := hPn
  have hD : va_D A [(oG, .inr (0, [.ref g1, .ref g2, .int gn, .int lG])), (g1, .inl (cI, 6000, .inl fG1)), (g2, .inl (cI, 20, .inl fG2)), (oW, .inr (1, [.ref oC, .ref oK, .ref nw, .ref w1, .ref w2, .ref w3, .ref o7, .ref o8, .ref o9, .ref w4, .ref w5, .ref w6, .ref w7, .int ke, .int tl, .int fsh, .int wi, .int ri, .int fm, .int lm])), (oX, .inr (11, [.ref nT, .ref nL, .ref nM, .ref oC, .ref oP, .ref oH, .ref oK, .ref oG, .ref oR, .ref oQ, .ref oW, .int fa_1])), (nL, .inr (5, [.ref aL, .int lL])), (aL, .inl (cI, 300, .inl fL)), (nM, .inr (5, [.ref aM, .int lM_1])), (aM, .inl (cI, 300, .inl fM_1)), (oP, .inr (7, [.ref oC, .ref nB, .int ft_1])), (nB, .inr (5, [.ref aB, .int lB_1])), (aB, .inl (cI, 2400, .inl fB_1)), (oC, .inr (2, [.ref o4, .ref o5])), (o4, .inr (10, [.ref a41, .ref a42, .ref a43, .int l4])), (a41, .inl (cI, 256, .inl f41)), (a42, .inl (cI, 512, .inl f42)), (a43, .inl (cI, 512, .inl f43)), (o5, .inr (10, [.ref a51, .ref a52, .ref a53, .int l5])), (a51, .inl (cI, 256, .inl f51)), (a52, .inl (cI, 512, .inl f52)), (a53, .inl (cI, 512, .inl f53))] := hDn
  have hS := hSn
  clear hPn hDn hSn
  refine lv_if_eq (tgt := 20) hx hb dX11_undo_6 (by decide) (fun c_2 => ?_) (fun c_2 => ?_)
  · have tc_2 : r_1.toInt = 0 := v_eq c_2
    refine lv_iconst (v := (-1)) hx hb dX11_undo_20 (by decide) ?_
    have hP9 := hP.sub (ws' := [(oX, .inr (11, [.ref nT, .ref nL, .ref nM, .ref oC, .ref oP, .ref oH, .ref oK, .ref oG, .ref oR, .ref oQ, .ref oW, .int fa_1])), (nL, .inr (5, [.ref aL, .int lL])), (aL, .inl (cI, 300, .inl fL)), (nM, .inr (5, [.ref aM, .int lM_1])), (aM, .inl (cI, 300, .inl fM_1)), (oP, .inr (7, [.ref oC, .ref nB, .int ft_1])), (nB, .inr (5, [.ref aB, .int lB_1])), (aB, .inl (cI, 2400, .inl fB_1)), (oC, .inr (2, [.ref o4, .ref o5])), (o4, .inr (10, [.ref a41, .ref a42, .ref a43, .int l4])), (a41, .inl (cI, 256, .inl f41)), (a42, .inl (cI, 512, .inl f42)), (a43, .inl (cI, 512, .inl f43)), (o5, .inr (10, [.ref a51, .ref a52, .ref a53, .int l5])), (a51, .inl (cI, 256, .inl f51)), (a52, .inl (cI, 512, .inl f52)), (a53, .inl (cI, 512, .inl f53)), (oG, .inr (0, [.ref g1, .ref g2, .int gn, .int lG])), (g1, .inl (cI, 6000, .inl fG1)), (g2, .inl (cI, 20, .inl fG2)), (oW, .inr (1, [.ref oC, .ref oK, .ref nw, .ref w1, .ref w2, .ref w3, .ref o7, .ref o8, .ref o9, .ref w4, .ref w5, .ref w6, .ref w7, .int ke, .int tl, .int fsh, .int wi, .int ri, .int fm, .int lm]))]) [4, 5, 6, 7, 8, 9, 10, 11, 12, 13, 14, 15, 16, 17, 18, 19, 20, 0, 1, 2, 3] rfl
    have hD9 := hD.sub (ws' := [(oX, .inr (11, [.ref nT, .ref nL, .ref nM, .ref oC, .ref oP, .ref oH, .ref oK, .ref oG, .ref oR, .ref oQ, .ref oW, .int fa_1])), (nL, .inr (5, [.ref aL, .int lL])), (aL, .inl (cI, 300, .inl fL)), (nM, .inr (5, [.ref aM, .int lM_1])), (aM, .inl (cI, 300, .inl fM_1)), (oP, .inr (7, [.ref oC, .ref nB, .int ft_1])), (nB, .inr (5, [.ref aB, .int lB_1])), (aB, .inl (cI, 2400, .inl fB_1)), (oC, .inr (2, [.ref o4, .ref o5])), (o4, .inr (10, [.ref a41, .ref a42, .ref a43, .int l4])), (a41, .inl (cI, 256, .inl f41)), (a42, .inl (cI, 512, .inl f42)), (a43, .inl (cI, 512, .inl f43)), (o5, .inr (10, [.ref a51, .ref a52, .ref a53, .int l5])), (a51, .inl (cI, 256, .inl f51)), (a52, .inl (cI, 512, .inl f52)), (a53, .inl (cI, 512, .inl f53)), (oG, .inr (0, [.ref g1, .ref g2, .int gn, .int lG])), (g1, .inl (cI, 6000, .inl fG1)), (g2, .inl (cI, 20, .inl fG2)), (oW, .inr (1, [.ref oC, .ref oK, .ref nw, .ref w1, .ref w2, .ref w3, .ref o7, .ref o8, .ref o9, .ref w4, .ref w5, .ref w6, .ref w7, .int ke, .int tl, .int fsh, .int wi, .int ri, .int fm, .int lm]))]) [4, 5, 6, 7, 8, 9, 10, 11, 12, 13, 14, 15, 16, 17, 18, 19, 20, 0, 1, 2, 3] (by decide +kernel) rfl
    rw [hQQ]
    exact W.iret (v := (-1)) hx hb hr (fun t ht hW => ⟨⟨(-1), (-1), rfl, rfl, ⟨fa_1, ft_1, lB_1, fB_1, lM_1, fM_1, lL, fL, fsh, gn, lG, fG1, fG2, by rw [ht]; exact hP9, hD9, hf1_0, hf1_1, g_lL, g_fsh, g_gn, g_lG, g_fG2, OC_n rfl (pz_0 hf1_3 (by omega))⟩⟩, hS.F ht⟩) hS.2.2 dX11_undo_21
  · have tc_2 : ¬ r_1.toInt = 0 := v_ne c_2
    refine lv_aload_n hx hb dX11_undo_9 rfl (lv_at hl 0 rfl) ?_
    refine lv_aload_n hx hb dX11_undo_10 rfl (lv_at hl 0 rfl) ?_
    refine va_get (D := (dC, dI)) (ci := 11) (v := .ref nM) (C := RX11) (T := TX11) (N := 12) hx hb hts in_X11 hown hK hP 4 rfl rfl 2 (by decide) (hts (.fieldLink RX11 37 "TextMender" "made" "LTextMender$Numbers;") (List.mem_of_getElem? (i := 1) rfl)) (fun _ h9 => h9) rfl dX11_undo_11 ?_
    have hPc := hP.sub (ws' := [(oX, .inr (11, [.ref nT, .ref nL, .ref nM, .ref oC, .ref oP, .ref oH, .ref oK, .ref oG, .ref oR, .ref oQ, .ref oW, .int fa_1])), (nL, .inr (5, [.ref aL, .int lL])), (aL, .inl (cI, 300, .inl fL)), (nM, .inr (5, [.ref aM, .int lM_1])), (aM, .inl (cI, 300, .inl fM_1)), (oG, .inr (0, [.ref g1, .ref g2, .int gn, .int lG])), (g1, .inl (cI, 6000, .inl fG1)), (g2, .inl (cI, 20, .inl fG2)), (oW, .inr (1, [.ref oC, .ref oK, .ref nw, .ref w1, .ref w2, .ref w3, .ref o7, .ref o8, .ref o9, .ref w4, .ref w5, .ref w6, .ref w7, .int ke, .int tl, .int fsh, .int wi, .int ri, .int fm, .int lm]))]) [4, 5, 6, 7, 8, 0, 1, 2, 3] rfl
    have hDc := hD.sub (ws' := [(oX, .inr (11, [.ref nT, .ref nL, .ref nM, .ref oC, .ref oP, .ref oH, .ref oK, .ref oG, .ref oR, .ref oQ, .ref oW, .int fa_1])), (nL, .inr (5, [.ref aL, .int lL])), (aL, .inl (cI, 300, .inl fL)), (nM, .inr (5, [.ref aM, .int lM_1])), (aM, .inl (cI, 300, .inl fM_1)), (oG, .inr (0, [.ref g1, .ref g2, .int gn, .int lG])), (g1, .inl (cI, 6000, .inl fG1)), (g2, .inl (cI, 20, .inl fG2)), (oW, .inr (1, [.ref oC, .ref oK, .ref nw, .ref w1, .ref w2, .ref w3, .ref o7, .ref o8, .ref o9, .ref w4, .ref w5, .ref w6, .ref w7, .int ke, .int tl, .int fsh, .int wi, .int ri, .int fm, .int lm]))]) [4, 5, 6, 7, 8, 0, 1, 2, 3] (by decide +kernel) rfl
    have hFc := va_free (wc := [(oX, .inr (11, [.ref nT, .ref nL, .ref nM, .ref oC, .ref oP, .ref oH, .ref oK, .ref oG, .ref oR, .ref oQ, .ref oW, .int fa_1])), (nL, .inr (5, [.ref aL, .int lL])), (aL, .inl (cI, 300, .inl fL)), (nM, .inr (5, [.ref aM, .int lM_1])), (aM, .inl (cI, 300, .inl fM_1)), (oG, .inr (0, [.ref g1, .ref g2, .int gn, .int lG])), (g1, .inl (cI, 6000, .inl fG1)), (g2, .inl (cI, 20, .inl fG2)), (oW, .inr (1, [.ref oC, .ref oK, .ref nw, .ref w1, .ref w2, .ref w3, .ref o7, .ref o8, .ref o9, .ref w4, .ref w5, .ref w6, .ref w7, .int ke, .int tl, .int fsh, .int wi, .int ri, .int fm, .int lm]))]) hD hS hA [4, 5, 6, 7, 8, 0, 1, 2, 3] rfl
    refine va_calli (va_runV (As := [.ref nM]) (rest := []) ⟨hx, hb, hml, hown, hts⟩ (f_X11_bec l dC dI cI cS H.size oX nM nT nL oC oP oH oK oG oR oQ oW aL aM g1 g2 nw w1 w2 w3 o7 o8 o9 w4 w5 w6 w7 fa_1 lL fL lM_1 fM_1 gn lG fG1 fG2 ke tl fsh wi ri fm lm (g_lL) (hf1_1) (g_gn) (g_lG) (g_fG2) (g_ke) (g_fsh) (g_fm) (g_lm)) (cwV 1 hts gX11_undo_X11_become rfl rfl rfl (by decide +kernel) ⟨Nat.le_of_ble_eq_true rfl, Nat.le_of_ble_eq_true rfl⟩) ⟨fun a U g mk q => by obtain ⟨q0, q1, qP, qK, qD⟩ := q; exact ⟨q0, q1, qP, va_K.moved (u := U) (U := U.calling g mk a) (Vm.Alike.refl U.vm) qK, qD⟩, va_recv hK hPc (ci := 11) (q0 := 0) rfl rfl, fun U hU hW => ⟨rfl, by rw [hU], by rw [hU]; exact hPc, va_K.moved hW.alike hK, hDc.weaken (fun _ _ _ _ => trivial)⟩⟩ rfl rfl hl.1 rfl (lv_room (Nat.le_of_ble_eq_true rfl)) dX11_undo_14 ⟨Nat.le_of_ble_eq_true rfl, Nat.le_of_ble_eq_true rfl⟩) hS (fun q _ h => hFc q h) hFc (fun r_3 u t H1 locs ht hvm hw hB hz1 hk1 hSn => ?_)
    subst hw
    obtain ⟨lL_3, fL_3, fsh_3, gn_3, lG_3, fG1_3, fG2_3, hP1, hD1, hf3_0, hf3_1, hf3_2, hf3_3, hf3_4, hf3_5, hf3_6, hf3_7⟩ := hB
    rw [ht] at hP1
    obtain ⟨hPn, hDn⟩ := va_join (wr := [(oP, .inr (7, [.ref oC, .ref nB, .int ft_1])), (nB, .inr (5, [.ref aB, .int lB_1])), (aB, .inl (cI, 2400, .inl fB_1)), (oC, .inr (2, [.ref o4, .ref o5])), (o4, .inr (10, [.ref a41, .ref a42, .ref a43, .int l4])), (a41, .inl (cI, 256, .inl f41)), (a42, .inl (cI, 512, .inl f42)), (a43, .inl (cI, 512, .inl f43)), (o5, .inr (10, [.ref a51, .ref a52, .ref a53, .int l5])), (a51, .inl (cI, 256, .inl f51)), (a52, .inl (cI, 512, .inl f52)), (a53, .inl (cI, 512, .inl f53))]) (w1 := [(oX, .inr (11, [.ref nT, .ref nL, .ref nM, .ref oC, .ref oP, .ref oH, .ref oK, .ref oG, .ref oR, .ref oQ, .ref oW, .int fa_1])), (nL, .inr (5, [.ref aL, .int lL_3])), (aL, .inl (cI, 300, .inl fL_3)), (nM, .inr (5, [.ref aM, .int lM_1])), (aM, .inl (cI, 300, .inl fM_1)), (oG, .inr (0, [.ref g1, .ref g2, .int gn_3, .int lG_3])), (g1, .inl (cI, 6000, .inl fG1_3)), (g2, .inl (cI, 20, .inl fG2_3)), (oW, .inr (1, [.ref oC, .ref oK, .ref nw, .ref w1, .ref w2, .ref w3, .ref o7, .ref o8, .ref o9, .ref w4, .ref w5, .ref w6, .ref w7, .int ke, .int tl, .int fsh_3, .int wi, .int ri, .int fm, .int lm]))]) hP hD [4, 5, 6, 7, 8, 0, 1, 2, 3] [9, 10, 11, 12, 13, 14, 15, 16, 17, 18, 19, 20] rfl rfl (by decide +kernel) (by decide +kernel) hk1 hFc hP1 hD1
    clear hP hD hS hPc hDc hFc hk1 hz1 hvm ht hP1 hD1
    generalize H1 = H at hPn hSn ⊢
    have hP : va_P (dC, dI) vwCl [(oP, .inr (7, [.ref oC, .ref nB, .int ft_1])), (nB, .inr (5, [.ref aB, .int lB_1])), (aB, .inl (cI, 2400, .inl fB_1)), (oC, .inr (2, [.ref o4, .ref o5])), (o4, .inr (10, [.ref a41, .ref a42, .ref a43, .int l4])), (a41, .inl (cI, 256, .inl f41)), (a42, .inl (cI, 512, .inl f42)), (a43, .inl (cI, 512, .inl f43)), (o5, .inr (10, [.ref a51, .ref a52, .ref a53, .int l5])), (a51, .inl (cI, 256, .inl f51)), (a52, .inl (cI, 512, .inl f52)), (a53, .inl (cI, 512, .inl f53)), (oX, .inr (11, [.ref nT, .ref nL, .ref nM, .ref oC, .ref oP, .ref oH, .ref oK, .ref oG, .ref oR, .ref oQ, .ref oW, .int fa_1])), (nL, .inr (5, [.ref aL, .int lL_3])), (aL, .inl (cI, 300, .inl fL_3)), (nM, .inr (5, [.ref aM, .int lM_1])), (aM, .inl (cI, 300, .inl fM_1)), (oG, .inr (0, [.ref g1, .ref g2, .int gn_3, .int lG_3])), (g1, .inl (cI, 6000, .inl fG1_3)), (g2, .inl (cI, 20, .inl fG2_3)), (oW, .inr (1, [.ref oC, .ref oK, .ref nw, .ref w1, .ref w2, .ref w3, .ref o7, .ref o8, .ref o9, .ref w4, .ref w5, .ref w6, .ref w7, .int ke, .int tl, .int fsh_3, .int wi, .int ri, .int fm, .int lm]))] H := hPn
    have hD : va_D A [(oP, .inr (7, [.ref oC, .ref nB, .int ft_1])), (nB, .inr (5, [.ref aB, .int lB_1])), (aB, .inl (cI, 2400, .inl fB_1)), (oC, .inr (2, [.ref o4, .ref o5])), (o4, .inr (10, [.ref a41, .ref a42, .ref a43, .int l4])), (a41, .inl (cI, 256, .inl f41)), (a42, .inl (cI, 512, .inl f42)), (a43, .inl (cI, 512, .inl f43)), (o5, .inr (10, [.ref a51, .ref a52, .ref a53, .int l5])), (a51, .inl (cI, 256, .inl f51)), (a52, .inl (cI, 512, .inl f52)), (a53, .inl (cI, 512, .inl f53)), (oX, .inr (11, [.ref nT, .ref nL, .ref nM, .ref oC, .ref oP, .ref oH, .ref oK, .ref oG, .ref oR, .ref oQ, .ref oW, .int fa_1])), (nL, .inr (5, [.ref aL, .int lL_3])), (aL, .inl (cI, 300, .inl fL_3)), (nM, .inr (5, [.ref aM, .int lM_1])), (aM, .inl (cI, 300, .inl fM_1)), (oG, .inr (0, [.ref g1, .ref g2, .int gn_3, .int lG_3])), (g1, .inl (cI, 6000, .inl fG1_3)), (g2, .inl (cI, 20, .inl fG2_3)), (oW, .inr (1, [.ref oC, .ref oK, .ref nw, .ref w1, .ref w2, .ref w3, .ref o7, .ref o8, .ref o9, .ref w4, .ref w5, .ref w6, .ref w7, .int ke, .int tl, .int fsh_3, .int wi, .int ri, .int fm, .int lm]))] := hDn
    have hS := hSn
    clear hPn hDn hSn
    refine lv_goto (tgt := 21) hx hb dX11_undo_17 (by decide) ?_
    have hP9 := hP.sub (ws' := [(oX, .inr (11, [.ref nT, .ref nL, .ref nM, .ref oC, .ref oP, .ref oH, .ref oK, .ref oG, .ref oR, .ref oQ, .ref oW, .int fa_1])), (nL, .inr (5, [.ref aL, .int lL_3])), (aL, .inl (cI, 300, .inl fL_3)), (nM, .inr (5, [.ref aM, .int lM_1])), (aM, .inl (cI, 300, .inl fM_1)), (oP, .inr (7, [.ref oC, .ref nB, .int ft_1])), (nB, .inr (5, [.ref aB, .int lB_1])), (aB, .inl (cI, 2400, .inl fB_1)), (oC, .inr (2, [.ref o4, .ref o5])), (o4, .inr (10, [.ref a41, .ref a42, .ref a43, .int l4])), (a41, .inl (cI, 256, .inl f41)), (a42, .inl (cI, 512, .inl f42)), (a43, .inl (cI, 512, .inl f43)), (o5, .inr (10, [.ref a51, .ref a52, .ref a53, .int l5])), (a51, .inl (cI, 256, .inl f51)), (a52, .inl (cI, 512, .inl f52)), (a53, .inl (cI, 512, .inl f53)), (oG, .inr (0, [.ref g1, .ref g2, .int gn_3, .int lG_3])), (g1, .inl (cI, 6000, .inl fG1_3)), (g2, .inl (cI, 20, .inl fG2_3)), (oW, .inr (1, [.ref oC, .ref oK, .ref nw, .ref w1, .ref w2, .ref w3, .ref o7, .ref o8, .ref o9, .ref w4, .ref w5, .ref w6, .ref w7, .int ke, .int tl, .int fsh_3, .int wi, .int ri, .int fm, .int lm]))]) [12, 13, 14, 15, 16, 0, 1, 2, 3, 4, 5, 6, 7, 8, 9, 10, 11, 17, 18, 19, 20] rfl
    have hD9 := hD.sub (ws' := [(oX, .inr (11, [.ref nT, .ref nL, .ref nM, .ref oC, .ref oP, .ref oH, .ref oK, .ref oG, .ref oR, .ref oQ, .ref oW, .int fa_1])), (nL, .inr (5, [.ref aL, .int lL_3])), (aL, .inl (cI, 300, .inl fL_3)), (nM, .inr (5, [.ref aM, .int lM_1])), (aM, .inl (cI, 300, .inl fM_1)), (oP, .inr (7, [.ref oC, .ref nB, .int ft_1])), (nB, .inr (5, [.ref aB, .int lB_1])), (aB, .inl (cI, 2400, .inl fB_1)), (oC, .inr (2, [.ref o4, .ref o5])), (o4, .inr (10, [.ref a41, .ref a42, .ref a43, .int l4])), (a41, .inl (cI, 256, .inl f41)), (a42, .inl (cI, 512, .inl f42)), (a43, .inl (cI, 512, .inl f43)), (o5, .inr (10, [.ref a51, .ref a52, .ref a53, .int l5])), (a51, .inl (cI, 256, .inl f51)), (a52, .inl (cI, 512, .inl f52)), (a53, .inl (cI, 512, .inl f53)), (oG, .inr (0, [.ref g1, .ref g2, .int gn_3, .int lG_3])), (g1, .inl (cI, 6000, .inl fG1_3)), (g2, .inl (cI, 20, .inl fG2_3)), (oW, .inr (1, [.ref oC, .ref oK, .ref nw, .ref w1, .ref w2, .ref w3, .ref o7, .ref o8, .ref o9, .ref w4, .ref w5, .ref w6, .ref w7, .int ke, .int tl, .int fsh_3, .int wi, .int ri, .int fm, .int lm]))]) [12, 13, 14, 15, 16, 0, 1, 2, 3, 4, 5, 6, 7, 8, 9, 10, 11, 17, 18, 19, 20] (by decide +kernel) rfl
    rw [hQQ]
    exact W.iret (v := r_3) hx hb hr (fun t ht hW => ⟨⟨r_3, r_3, rfl, rfl, ⟨fa_1, ft_1, lB_1, fB_1, lM_1, fM_1, lL_3, fL_3, fsh_3, gn_3, lG_3, fG1_3, fG2_3, by rw [ht]; exact hP9, hD9, hf1_0, hf1_1, hf3_0, hf3_1, hf3_2, hf3_3, hf3_4, OC_y ((pz_1 hf1_3 (by omega)).imp (fun c hc => ⟨hc.1, hc.2 _ (by omega)⟩)) hf3_6 hf3_7⟩⟩, hS.F ht⟩) hS.2.2 dX11_undo_21

end

/-! 59l.a.rows -/
section
theorem dX12_harm_0 : decode cX12_harm 0 = .ok (.aload_n 0, 1) := by decide +kernel
theorem dX12_harm_1 : decode cX12_harm 1 = .ok (.iconst 0, 1) := by decide +kernel
theorem dX12_harm_2 : decode cX12_harm 2 = .ok (.putfield 85, 3) := by decide +kernel
theorem dX12_harm_5 : decode cX12_harm 5 = .ok (.aload_n 0, 1) := by decide +kernel
theorem dX12_harm_6 : decode cX12_harm 6 = .ok (.iconst (-1), 1) := by decide +kernel
theorem dX12_harm_7 : decode cX12_harm 7 = .ok (.putfield 55, 3) := by decide +kernel
theorem dX12_harm_10 : decode cX12_harm 10 = .ok (.iload_n 1, 1) := by decide +kernel
set_option maxRecDepth 20000 in
theorem ggX12_harm_X12_isCode : GoodIn wsX12_harm wsX12_isCode := goodIn_r _ [11] rfl (by decide +kernel)
set_option maxRecDepth 20000 in
theorem gX12_harm_X12_isCode : GoodIn wsX12_harm (va_wsS RX12 158 yX12_isCode wsX12_isCode) := goodIn_app (goodIn_r _ [8, 9, 10] rfl (by decide +kernel)) ggX12_harm_X12_isCode
theorem dX12_harm_11 : decode cX12_harm 11 = .ok (.invokestatic 158, 3) := by decide +kernel
theorem dX12_harm_14 : decode cX12_harm 14 = .ok (.ifCond .eq 10, 3) := by decide +kernel
theorem dX12_harm_24 : decode cX12_harm 24 = .ok (.iconst (-1), 1) := by decide +kernel
theorem dX12_harm_25 : decode cX12_harm 25 = .ok (.ireturn, 1) := by decide +kernel
theorem dX12_harm_17 : decode cX12_harm 17 = .ok (.iload_n 2, 1) := by decide +kernel
theorem dX12_harm_18 : decode cX12_harm 18 = .ok (.invokestatic 158, 3) := by decide +kernel
theorem dX12_harm_21 : decode cX12_harm 21 = .ok (.ifCond .ne 5, 3) := by decide +kernel
theorem dX12_harm_26 : decode cX12_harm 26 = .ok (.aload_n 0, 1) := by decide +kernel
theorem dX12_harm_27 : decode cX12_harm 27 = .ok (.iload_n 1, 1) := by decide +kernel
theorem dX12_harm_28 : decode cX12_harm 28 = .ok (.iload_n 2, 1) := by decide +kernel
theorem dX12_harm_29 : decode cX12_harm 29 = .ok (.aload_n 0, 1) := by decide +kernel
theorem dX12_harm_30 : decode cX12_harm 30 = .ok (.getfield 16, 3) := by decide +kernel
theorem dX12_harm_33 : decode cX12_harm 33 = .ok (.aload_n 0, 1) := by decide +kernel
theorem dX12_harm_34 : decode cX12_harm 34 = .ok (.getfield 13, 3) := by decide +kernel
theorem dX12_harm_37 : decode cX12_harm 37 = .ok (.iconst 0, 1) := by decide +kernel
theorem dX12_harm_38 : decode cX12_harm 38 = .ok (.iaload, 1) := by decide +kernel
set_option maxRecDepth 20000 in
theorem ggX12_harm_X12_does : GoodIn wsX12_harm wsX12_does := goodIn_r _ [15, 5, 16, 7, 17, 18, 19, 10, 20, 21, 22, 23, 24, 25, 26, 27, 28, 29, 30, 31, 32, 33, 34, 35, 6, 36, 37, 38, 39, 40, 41, 42, 43, 44, 45, 46, 47, 48, 49, 50, 51, 52, 53, 54, 62, 63, 64, 65, 66, 67, 68, 69, 70, 71, 72, 73, 74, 75, 76, 77, 78, 79, 80, 81, 82, 83, 84, 85, 86, 87, 88, 89, 90, 91, 92, 93, 94, 95, 96, 97, 98, 99, 100, 101] rfl (by decide +kernel)
set_option maxRecDepth 20000 in
theorem gX12_harm_X12_does : GoodIn wsX12_harm (wsV RX12 138 RX12 yX12_does wsX12_does) := goodIn_app (goodIn_r _ [12, 13, 14, 10] rfl (by decide +kernel)) ggX12_harm_X12_does
theorem dX12_harm_39 : decode cX12_harm 39 = .ok (.invokevirtual 138, 3) := by decide +kernel
theorem dX12_harm_42 : decode cX12_harm 42 = .ok (.ifCond .ne 13, 3) := by decide +kernel
theorem dX12_harm_55 : decode cX12_harm 55 = .ok (.aload_n 0, 1) := by decide +kernel
theorem dX12_harm_56 : decode cX12_harm 56 = .ok (.aload_n 0, 1) := by decide +kernel
theorem dX12_harm_57 : decode cX12_harm 57 = .ok (.getfield 61, 3) := by decide +kernel
theorem dX12_harm_60 : decode cX12_harm 60 = .ok (.aload_n 0, 1) := by decide +kernel
theorem dX12_harm_61 : decode cX12_harm 61 = .ok (.getfield 119, 3) := by decide +kernel
set_option maxRecDepth 20000 in
theorem ggX12_harm_X12_become : GoodIn wsX12_harm wsX12_become := goodIn_r _ [58, 59, 60, 4, 3, 61, 62, 63, 64, 65, 66, 67, 68, 69, 70, 71, 72, 73, 74, 75, 76, 77, 78, 79, 80, 81, 82, 83, 84, 85, 86, 87, 88, 89, 90, 91, 92, 93, 94, 95, 96, 97, 98, 99, 100, 101] rfl (by decide +kernel)
set_option maxRecDepth 20000 in
theorem gX12_harm_X12_become : GoodIn wsX12_harm (wsV RX12 154 RX12 yX12_become wsX12_become) := goodIn_app (goodIn_r _ [55, 56, 57, 10] rfl (by decide +kernel)) ggX12_harm_X12_become
theorem dX12_harm_64 : decode cX12_harm 64 = .ok (.invokevirtual 154, 3) := by decide +kernel
theorem dX12_harm_67 : decode cX12_harm 67 = .ok (.aload_n 0, 1) := by decide +kernel
theorem dX12_harm_68 : decode cX12_harm 68 = .ok (.getfield 119, 3) := by decide +kernel
theorem dX12_harm_71 : decode cX12_harm 71 = .ok (.ireturn, 1) := by decide +kernel
theorem dX12_harm_45 : decode cX12_harm 45 = .ok (.aload_n 0, 1) := by decide +kernel
theorem dX12_harm_46 : decode cX12_harm 46 = .ok (.aload_n 0, 1) := by decide +kernel
theorem dX12_harm_47 : decode cX12_harm 47 = .ok (.getfield 102, 3) := by decide +kernel
theorem dX12_harm_50 : decode cX12_harm 50 = .ok (.putfield 55, 3) := by decide +kernel
theorem dX12_harm_53 : decode cX12_harm 53 = .ok (.iconst (-1), 1) := by decide +kernel
theorem dX12_harm_54 : decode cX12_harm 54 = .ok (.ireturn, 1) := by decide +kernel
theorem dX12_undo_0 : decode cX12_undo 0 = .ok (.aload_n 0, 1) := by decide +kernel
theorem dX12_undo_1 : decode cX12_undo 1 = .ok (.iconst 0, 1) := by decide +kernel
theorem dX12_undo_2 : decode cX12_undo 2 = .ok (.putfield 85, 3) := by decide +kernel
theorem dX12_undo_5 : decode cX12_undo 5 = .ok (.aload_n 0, 1) := by decide +kernel
theorem dX12_undo_6 : decode cX12_undo 6 = .ok (.iconst (-1), 1) := by decide +kernel
theorem dX12_undo_7 : decode cX12_undo 7 = .ok (.putfield 55, 3) := by decide +kernel
theorem dX12_undo_10 : decode cX12_undo 10 = .ok (.iload_n 1, 1) := by decide +kernel
set_option maxRecDepth 20000 in
theorem ggX12_undo_X12_isCode : GoodIn wsX12_undo wsX12_isCode := goodIn_r _ [9] rfl (by decide +kernel)
set_option maxRecDepth 20000 in
theorem gX12_undo_X12_isCode : GoodIn wsX12_undo (va_wsS RX12 158 yX12_isCode wsX12_isCode) := goodIn_app (goodIn_r _ [6, 7, 8] rfl (by decide +kernel)) ggX12_undo_X12_isCode
theorem dX12_undo_11 : decode cX12_undo 11 = .ok (.invokestatic 158, 3) := by decide +kernel
theorem dX12_undo_14 : decode cX12_undo 14 = .ok (.ifCond .eq 10, 3) := by decide +kernel
theorem dX12_undo_24 : decode cX12_undo 24 = .ok (.iconst (-1), 1) := by decide +kernel
theorem dX12_undo_25 : decode cX12_undo 25 = .ok (.ireturn, 1) := by decide +kernel
theorem dX12_undo_17 : decode cX12_undo 17 = .ok (.iload_n 2, 1) := by decide +kernel
theorem dX12_undo_18 : decode cX12_undo 18 = .ok (.invokestatic 158, 3) := by decide +kernel
theorem dX12_undo_21 : decode cX12_undo 21 = .ok (.ifCond .ne 5, 3) := by decide +kernel
theorem dX12_undo_26 : decode cX12_undo 26 = .ok (.aload_n 0, 1) := by decide +kernel
set_option maxRecDepth 20000 in
theorem ggX12_undo_X12_takeText : GoodIn wsX12_undo wsX12_takeText := goodIn_r _ [13, 14, 5, 4, 15, 73, 74, 75, 76, 77, 78, 79, 80, 81, 82, 83, 84, 85, 86, 87, 88, 89, 90, 91, 92, 93, 94, 95, 96, 97, 98, 99, 100, 101, 102, 103, 104, 105, 106, 107, 108, 109, 110, 111, 112] rfl (by decide +kernel)
set_option maxRecDepth 20000 in
theorem gX12_undo_X12_takeText : GoodIn wsX12_undo (wsV RX12 171 RX12 yX12_takeText wsX12_takeText) := goodIn_app (goodIn_r _ [10, 11, 12, 8] rfl (by decide +kernel)) ggX12_undo_X12_takeText
theorem dX12_undo_27 : decode cX12_undo 27 = .ok (.invokevirtual 171, 3) := by decide +kernel
theorem dX12_undo_30 : decode cX12_undo 30 = .ok (.aload_n 0, 1) := by decide +kernel
theorem dX12_undo_31 : decode cX12_undo 31 = .ok (.iload_n 1, 1) := by decide +kernel
theorem dX12_undo_32 : decode cX12_undo 32 = .ok (.iload_n 2, 1) := by decide +kernel
set_option maxRecDepth 20000 in
theorem ggX12_undo_X12_undoes : GoodIn wsX12_undo wsX12_undoes := goodIn_r _ [19, 4, 5, 20, 21, 22, 3, 23, 24, 25, 8, 26, 27, 28, 29, 30, 31, 32, 33, 34, 35, 36, 37, 38, 39, 40, 41, 42, 43, 44, 45, 46, 47, 48, 49, 50, 51, 52, 53, 54, 55, 56, 57, 58, 59, 60, 61, 62, 63, 64, 65, 73, 74, 75, 76, 77, 78, 79, 80, 81, 82, 83, 84, 85, 86, 87, 88, 89, 90, 91, 92, 93, 94, 95, 96, 97, 98, 99, 100, 101, 102, 103, 104, 105, 106, 107, 108, 109, 110, 111, 112] rfl (by decide +kernel)
set_option maxRecDepth 20000 in
theorem gX12_undo_X12_undoes : GoodIn wsX12_undo (wsV RX12 174 RX12 yX12_undoes wsX12_undoes) := goodIn_app (goodIn_r _ [16, 17, 18, 8] rfl (by decide +kernel)) ggX12_undo_X12_undoes
theorem dX12_undo_33 : decode cX12_undo 33 = .ok (.invokevirtual 174, 3) := by decide +kernel
theorem dX12_undo_36 : decode cX12_undo 36 = .ok (.ifCond .ne 13, 3) := by decide +kernel
theorem dX12_undo_49 : decode cX12_undo 49 = .ok (.aload_n 0, 1) := by decide +kernel
theorem dX12_undo_50 : decode cX12_undo 50 = .ok (.aload_n 0, 1) := by decide +kernel
theorem dX12_undo_51 : decode cX12_undo 51 = .ok (.getfield 64, 3) := by decide +kernel
theorem dX12_undo_54 : decode cX12_undo 54 = .ok (.aload_n 0, 1) := by decide +kernel
theorem dX12_undo_55 : decode cX12_undo 55 = .ok (.getfield 135, 3) := by decide +kernel
set_option maxRecDepth 20000 in
theorem ggX12_undo_X12_become : GoodIn wsX12_undo wsX12_become := goodIn_r _ [69, 70, 71, 14, 15, 72, 73, 74, 75, 76, 77, 78, 79, 80, 81, 82, 83, 84, 85, 86, 87, 88, 89, 90, 91, 92, 93, 94, 95, 96, 97, 98, 99, 100, 101, 102, 103, 104, 105, 106, 107, 108, 109, 110, 111, 112] rfl (by decide +kernel)
set_option maxRecDepth 20000 in
theorem gX12_undo_X12_become : GoodIn wsX12_undo (wsV RX12 154 RX12 yX12_become wsX12_become) := goodIn_app (goodIn_r _ [66, 67, 68, 8] rfl (by decide +kernel)) ggX12_undo_X12_become
theorem dX12_undo_58 : decode cX12_undo 58 = .ok (.invokevirtual 154, 3) := by decide +kernel
theorem dX12_undo_61 : decode cX12_undo 61 = .ok (.aload_n 0, 1) := by decide +kernel
theorem dX12_undo_62 : decode cX12_undo 62 = .ok (.getfield 135, 3) := by decide +kernel
theorem dX12_undo_65 : decode cX12_undo 65 = .ok (.ireturn, 1) := by decide +kernel
theorem dX12_undo_39 : decode cX12_undo 39 = .ok (.aload_n 0, 1) := by decide +kernel
theorem dX12_undo_40 : decode cX12_undo 40 = .ok (.aload_n 0, 1) := by decide +kernel
theorem dX12_undo_41 : decode cX12_undo 41 = .ok (.getfield 102, 3) := by decide +kernel
theorem dX12_undo_44 : decode cX12_undo 44 = .ok (.putfield 55, 3) := by decide +kernel
theorem dX12_undo_47 : decode cX12_undo 47 = .ok (.iconst (-1), 1) := by decide +kernel
theorem dX12_undo_48 : decode cX12_undo 48 = .ok (.ireturn, 1) := by decide +kernel

end
