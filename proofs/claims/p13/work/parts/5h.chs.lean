theorem KPL_s4 {W4 W5 W6 W7 G4 G5 G6 G7 H4 H5 H6 H7 : Nat → Int32} {pl pl' a0 a1 a2 a3 x y z u : Int32} {hi : Int} (h : KPL W4 W5 W6 W7 G4 G5 G6 G7 pl.toInt hi) (h0 : 1 ≤ pl.toInt) (ha0 : a0.toInt = pl.toInt - 1) (ha1 : a1.toInt = pl.toInt - 1) (ha2 : a2.toInt = pl.toInt - 1) (ha3 : a3.toInt = pl.toInt - 1) (e4 : x = G4 a0.toNatClampNeg) (e5 : y = G5 a1.toNatClampNeg) (e6 : z = G6 a2.toNatClampNeg) (e7 : u = G7 a3.toNatClampNeg) (g4 : H4 = upd G4 pl.toNatClampNeg x) (g5 : H5 = upd G5 pl.toNatClampNeg y) (g6 : H6 = upd G6 pl.toNatClampNeg z) (g7 : H7 = upd G7 pl.toNatClampNeg u) (hp : pl'.toInt = pl.toInt - 1) : KPL W4 W5 W6 W7 H4 H5 H6 H7 pl'.toInt hi := by
  have q1 : a1 = a0 := v_inj (by omega)
  have q2 : a2 = a0 := v_inj (by omega)
  have q3 : a3 = a0 := v_inj (by omega)
  subst q1
  subst q2
  subst q3
  exact KPL_s h h0 ha0 e4 e5 e6 e7 g4 g5 g6 g7 hp
theorem kp_big {W4 W5 W6 W7 G4 G5 G6 G7 : Nat → Int32} {pl pl' a q : Int32} {k0 : Nat} {hi s : Int} (h : KPL W4 W5 W6 W7 G4 G5 G6 G7 pl.toInt hi) (hb : ∀ i : Nat, pl.toInt ≤ i → i < k0 → s < CA W4 W5 W6 W7 i 2) (ha : a.toInt = pl.toInt - 1) (h1 : 1 ≤ pl.toInt) (eq : q = G6 a.toNatClampNeg) (hq : s < q.toInt) (hp : pl'.toInt = pl.toInt - 1) : ∀ i : Nat, pl'.toInt ≤ i → i < k0 → s < CA W4 W5 W6 W7 i 2 := by
  intro i i1 i2
  have ca := v_clamp (x := a) (by omega)
  by_cases w : i = a.toNatClampNeg
  · rw [w, ← (h a.toNatClampNeg).1 2 (by omega) (by omega)]
    show s < (G6 a.toNatClampNeg).toInt
    rw [← eq]; exact hq
  · exact hb i (by omega) i2

theorem kp_id {k k0 k1 : Nat} {B A : Nat → Nat → Int} {e : Nat → Int} (h : INSk k k B e A) (e0 : k = k0 ∧ k = k1) : INSk k0 k1 B e A := by
  obtain ⟨q1, q2⟩ := e0
  subst q1
  subst q2
  exact h

theorem kp_b0 {W4 W5 W6 W7 : Nat → Int32} {pl ke q : Int32} {s : Int} {j : Nat} (hk : (pl.toInt = ke.toInt ∧ 0 ≤ ke.toInt) ∨ (ke.toInt = 200 ∧ pl.toInt = 199)) (eq : q = W6 j) (h : (ke.toInt < 200) ∨ (ke.toInt = 200 ∧ j = 199 ∧ s < q.toInt)) : ∀ i : Nat, pl.toInt ≤ i → i < ke.toNatClampNeg → s < CA W4 W5 W6 W7 i 2 := by
  intro i i1 i2
  have c := v_clamp (x := ke) (by omega)
  rcases h with h | ⟨h1, h2, h3⟩
  · omega
  · have e : i = 199 := by omega
    rw [e, ← h2]
    show s < (W6 j).toInt
    rw [← eq]; exact h3

set_option maxHeartbeats 40000000 in
set_option maxRecDepth 100000 in
theorem f_X1_keep (l : Launch) (dC : Nat → ClassId) (dI : Nat → Nat → Nat) (cI cS : ClassId) (sz : Nat) (oW : Nat) (oC : Nat) (oK : Nat) (nw : Nat) (w1 : Nat) (w2 : Nat) (w3 : Nat) (o7 : Nat) (o8 : Nat) (o9 : Nat) (w4 : Nat) (w5 : Nat) (w6 : Nat) (w7 : Nat) (ke : Int32) (tl : Int32) (fsh : Int32) (wi : Int32) (ri : Int32) (fm : Int32) (lm : Int32) (fW4 : Nat → Int32) (fW5 : Nat → Int32) (fW6 : Nat → Int32) (fW7 : Nat → Int32) (a : Int32) (b : Int32) (sm : Int32) (ls_ : Int32) (g_ke : 0 ≤ ke.toInt ∧ ke.toInt ≤ 200) (g_fsh : 0 ≤ fsh.toInt ∧ fsh.toInt ≤ 1) (g_fm : -1 ≤ fm.toInt ∧ fm.toInt ≤ 800) (g_lm : -1 ≤ lm.toInt ∧ lm.toInt ≤ 800) (hsr : srtA ke.toNatClampNeg (CA fW4 fW5 fW6 fW7)) : Met l yX1_keep wsX1_keep ({ frames := 1, cells := 0, slots := 0, locals := 21 } : Room) (va_Pc [.ref oW, .int a, .int b, .int sm, .int ls_] (fun U => U.heap.size = sz ∧ va_P (dC, dI) vwCl [(oW, .inr (1, [.ref oC, .ref oK, .ref nw, .ref w1, .ref w2, .ref w3, .ref o7, .ref o8, .ref o9, .ref w4, .ref w5, .ref w6, .ref w7, .int ke, .int tl, .int fsh, .int wi, .int ri, .int fm, .int lm])), (w4, .inl (cI, 200, .inl fW4)), (w5, .inl (cI, 200, .inl fW5)), (w6, .inl (cI, 200, .inl fW6)), (w7, .inl (cI, 200, .inl fW7))] U.heap ∧ va_K (dC, dI) vwCl [(cI, .int), (cS, .short)] U ∧ va_D (fun _ => True) [(oW, .inr (1, [.ref oC, .ref oK, .ref nw, .ref w1, .ref w2, .ref w3, .ref o7, .ref o8, .ref o9, .ref w4, .ref w5, .ref w6, .ref w7, .int ke, .int tl, .int fsh, .int wi, .int ri, .int fm, .int lm])), (w4, .inl (cI, 200, .inl fW4)), (w5, .inl (cI, 200, .inl fW5)), (w6, .inl (cI, 200, .inl fW6)), (w7, .inl (cI, 200, .inl fW7))])) (va_Qv (fun (_ : Unit) => True) (fun _ t => ∃ (ke' : Int32) (fW4' : Nat → Int32) (fW5' : Nat → Int32) (fW6' : Nat → Int32) (fW7' : Nat → Int32), va_P (dC, dI) vwCl [(oW, .inr (1, [.ref oC, .ref oK, .ref nw, .ref w1, .ref w2, .ref w3, .ref o7, .ref o8, .ref o9, .ref w4, .ref w5, .ref w6, .ref w7, .int ke', .int tl, .int fsh, .int wi, .int ri, .int fm, .int lm])), (w4, .inl (cI, 200, .inl fW4')), (w5, .inl (cI, 200, .inl fW5')), (w6, .inl (cI, 200, .inl fW6')), (w7, .inl (cI, 200, .inl fW7'))] t.heap ∧ va_D (va_A [(oW, .inr (1, [.ref oC, .ref oK, .ref nw, .ref w1, .ref w2, .ref w3, .ref o7, .ref o8, .ref o9, .ref w4, .ref w5, .ref w6, .ref w7, .int ke, .int tl, .int fsh, .int wi, .int ri, .int fm, .int lm])), (w4, .inl (cI, 200, .inl fW4)), (w5, .inl (cI, 200, .inl fW5)), (w6, .inl (cI, 200, .inl fW6)), (w7, .inl (cI, 200, .inl fW7))] sz) [(oW, .inr (1, [.ref oC, .ref oK, .ref nw, .ref w1, .ref w2, .ref w3, .ref o7, .ref o8, .ref o9, .ref w4, .ref w5, .ref w6, .ref w7, .int ke', .int tl, .int fsh, .int wi, .int ri, .int fm, .int lm])), (w4, .inl (cI, 200, .inl fW4')), (w5, .inl (cI, 200, .inl fW5')), (w6, .inl (cI, 200, .inl fW6')), (w7, .inl (cI, 200, .inl fW7'))] ∧ (0 ≤ ke'.toInt ∧ ke'.toInt ≤ 200) ∧ ((ke.toInt < 200 ∧ ke'.toInt = ke.toInt + 1) ∨ (ke.toInt = 200 ∧ ke'.toInt = 200)) ∧ (INSk ke.toNatClampNeg ke'.toNatClampNeg (CA fW4 fW5 fW6 fW7) (ent a.toInt b.toInt sm.toInt ls_.toInt) (CA fW4' fW5' fW6' fW7'))) (va_A [(oW, .inr (1, [.ref oC, .ref oK, .ref nw, .ref w1, .ref w2, .ref w3, .ref o7, .ref o8, .ref o9, .ref w4, .ref w5, .ref w6, .ref w7, .int ke, .int tl, .int fsh, .int wi, .int ri, .int fm, .int lm])), (w4, .inl (cI, 200, .inl fW4)), (w5, .inl (cI, 200, .inl fW5)), (w6, .inl (cI, 200, .inl fW6)), (w7, .inl (cI, 200, .inl fW7))] sz)) 0 0 (va_A [(oW, .inr (1, [.ref oC, .ref oK, .ref nw, .ref w1, .ref w2, .ref w3, .ref o7, .ref o8, .ref o9, .ref w4, .ref w5, .ref w6, .ref w7, .int ke, .int tl, .int fsh, .int wi, .int ri, .int fm, .int lm])), (w4, .inl (cI, 200, .inl fW4)), (w5, .inl (cI, 200, .inl fW5)), (w6, .inl (cI, 200, .inl fW6)), (w7, .inl (cI, 200, .inl fW7))] sz) := by
  refine Met.ofW (cc := cX1_keep) (maxL := 6) (ret := none) (by decide) rfl ?_
  intro p e s m args below meth c s₁ B hml hv
  obtain ⟨rfl, hsz, hP, hK, hD0⟩ := hv
  have hx := B.exec
  have hb := B.bytes
  have hr := B.returns
  have hts := atoms_spec (ws := wsX1_keep) B.pre
  have hown : s.vm.findClass RX1 = some m.cls := findClass_of_methodNamed B.named
  have hlocks := B.notSynchronized
  have in_X1 : ∀ w ∈ wsX10, w ∈ wsX1_keep := fun _ h => List.mem_cons_of_mem _ (List.mem_append_right _ (h))
  subst hsz
  have hD := hD0.self (sz := s.heap.size)
  generalize hAe : va_A [(oW, .inr (1, [.ref oC, .ref oK, .ref nw, .ref w1, .ref w2, .ref w3, .ref o7, .ref o8, .ref o9, .ref w4, .ref w5, .ref w6, .ref w7, .int ke, .int tl, .int fsh, .int wi, .int ri, .int fm, .int lm])), (w4, .inl (cI, 200, .inl fW4)), (w5, .inl (cI, 200, .inl fW5)), (w6, .inl (cI, 200, .inl fW6)), (w7, .inl (cI, 200, .inl fW7))] s.heap.size = A at hD ⊢
  have hA : ∀ q : Nat, s.heap.size ≤ q → A q := fun q h => by rw [← hAe]; exact Or.inr h
  have hS : va_S A s.heap s.heap [] := va_S.rf
  have hP : va_P (dC, dI) vwCl [(oW, .inr (1, [.ref oC, .ref oK, .ref nw, .ref w1, .ref w2, .ref w3, .ref o7, .ref o8, .ref o9, .ref w4, .ref w5, .ref w6, .ref w7, .int ke, .int tl, .int fsh, .int wi, .int ri, .int fm, .int lm])), (w4, .inl (cI, 200, .inl fW4)), (w5, .inl (cI, 200, .inl fW5)), (w6, .inl (cI, 200, .inl fW6)), (w7, .inl (cI, 200, .inl fW7))] s.heap := hP
  have hl := lv_entry ([.ref oW, .int a, .int b, .int sm, .int ls_]) (n := 6) (Nat.le_of_ble_eq_true rfl)
  rw [lg_entry_eq]
  generalize (lg_sl ([.ref oW, .int a, .int b, .int sm, .int ls_]) ++ List.replicate (6 - (lg_sl ([.ref oW, .int a, .int b, .int sm, .int ls_])).length) Slot.unset).toArray = ls at hl ⊢
  have hl : lv_has ls 6 [(0, .ref oW), (1, .int a), (2, .int b), (3, .int sm), (4, .int ls_)] := hl
  obtain ⟨QQ, hQQ⟩ : ∃ QQ : Array Value → State → Outcome → State → Prop, QQ = va_Qv (fun (_ : Unit) => True) (fun _ t => ∃ (ke' : Int32) (fW4' : Nat → Int32) (fW5' : Nat → Int32) (fW6' : Nat → Int32) (fW7' : Nat → Int32), va_P (dC, dI) vwCl [(oW, .inr (1, [.ref oC, .ref oK, .ref nw, .ref w1, .ref w2, .ref w3, .ref o7, .ref o8, .ref o9, .ref w4, .ref w5, .ref w6, .ref w7, .int ke', .int tl, .int fsh, .int wi, .int ri, .int fm, .int lm])), (w4, .inl (cI, 200, .inl fW4')), (w5, .inl (cI, 200, .inl fW5')), (w6, .inl (cI, 200, .inl fW6')), (w7, .inl (cI, 200, .inl fW7'))] t.heap ∧ va_D A [(oW, .inr (1, [.ref oC, .ref oK, .ref nw, .ref w1, .ref w2, .ref w3, .ref o7, .ref o8, .ref o9, .ref w4, .ref w5, .ref w6, .ref w7, .int ke', .int tl, .int fsh, .int wi, .int ri, .int fm, .int lm])), (w4, .inl (cI, 200, .inl fW4')), (w5, .inl (cI, 200, .inl fW5')), (w6, .inl (cI, 200, .inl fW6')), (w7, .inl (cI, 200, .inl fW7'))] ∧ (0 ≤ ke'.toInt ∧ ke'.toInt ≤ 200) ∧ ((ke.toInt < 200 ∧ ke'.toInt = ke.toInt + 1) ∨ (ke.toInt = 200 ∧ ke'.toInt = 200)) ∧ (INSk ke.toNatClampNeg ke'.toNatClampNeg (CA fW4 fW5 fW6 fW7) (ent a.toInt b.toInt sm.toInt ls_.toInt) (CA fW4' fW5' fW6' fW7'))) A := ⟨_, rfl⟩
  rw [← hQQ]
  have z0 : (0 : Int32).toInt = 0 := rfl
  have z1 : (1 : Int32).toInt = 1 := rfl
  have zm1 : (-1 : Int32).toInt = -1 := rfl
  have ck9 := v_clamp (x := ke) (by omega)
  have z199 : Int32.toNatClampNeg 199 = 199 := rfl
  refine lv_aload_n hx hb dX1_keep_0 rfl (lv_at hl 0 rfl) ?_
  refine va_get (D := (dC, dI)) (ci := 1) (v := .int ke) (C := RX1) (T := TX1) (N := 20) hx hb hts in_X1 hown hK hP 0 rfl rfl 13 (by decide) (hts (.fieldLink RX1 65 "TextMender$Choices" "kept" "I") (List.mem_of_getElem? (i := 1) rfl)) (fun _ h9 => h9) rfl dX1_keep_1 ?_
  refine lv_sipush (v := 200) hx hb dX1_keep_4 (by decide) ?_
  refine lv_icmp_ne (tgt := 23) hx hb dX1_keep_7 (by decide) (fun c_1 => ?_) (fun c_1 => ?_)
  · have tc_1 : ¬ ke.toInt = 200 := v_ne c_1
    refine lv_aload_n hx hb dX1_keep_23 rfl (lv_at hl 0 rfl) ?_
    refine va_get (D := (dC, dI)) (ci := 1) (v := .int ke) (C := RX1) (T := TX1) (N := 20) hx hb hts in_X1 hown hK hP 0 rfl rfl 13 (by decide) (hts (.fieldLink RX1 65 "TextMender$Choices" "kept" "I") (List.mem_of_getElem? (i := 1) rfl)) (fun _ h9 => h9) rfl dX1_keep_24 ?_
    refine lv_sipush (v := 199) hx hb dX1_keep_27 (by decide) ?_
    refine va_mmin hx hb (by rw [hml]; exact hl.1.symm) hown (hts (.methodLink RX1 135 Lib.Math.min.name) (List.mem_of_getElem? (i := 3) rfl)) (hts (.static Lib.Math.min.name) (List.mem_of_getElem? (i := 4) rfl)) (hts (.initialized "java/lang/Math") (List.mem_of_getElem? (i := 5) rfl)) (hts (.code Lib.Math.min.name Lib.Math.min.code 2 (some .int)) (List.mem_of_getElem? (i := 6) rfl)) (Nat.le_of_ble_eq_true rfl) (Nat.le_of_ble_eq_true rfl) (Nat.zero_le _) (Nat.zero_le _) dX1_keep_30 ?_
    refine lv_topi (fun x_2 ex_2 => ?_)
    have tx_2 : x_2.toInt ≤ ke.toInt ∧ x_2.toInt ≤ 199 ∧ (x_2.toInt = ke.toInt ∨ x_2.toInt = 199) := v_min ex_2
    refine lv_istore (lv' := [(5, .int x_2), (0, .ref oW), (1, .int a), (2, .int b), (3, .int sm), (4, .int ls_)]) hx hb dX1_keep_33 hl (by decide) rfl (fun ls hl => ?_)
    refine lv_aload_n hx hb dX1_keep_35 rfl (lv_at hl 1 rfl) ?_
    refine lv_iload hx hb dX1_keep_36 (lv_at hl 0 rfl) ?_
    refine lv_iconst (v := 1) hx hb dX1_keep_38 (by decide) ?_
    refine lv_iadd hx hb dX1_keep_39 ?_
    refine lv_topi (fun x_3 ex_3 => ?_)
    have tx_3 : x_3.toInt = x_2.toInt + 1 := v_add ex_3 (by show -2147483648 ≤ x_2.toInt + 1; omega) (by show x_2.toInt + 1 < 2147483648; omega)
    refine va_put (D := (dC, dI)) (ci := 1) (v := .int x_3) (ty := .int) (C := RX1) (T := TX1) (N := 20) hx hb hts in_X1 tyX1 tyX1_ok nmX1 hown hK hP hD hS 0 rfl rfl 13 (by decide) (hts (.fieldLink RX1 65 "TextMender$Choices" "kept" "I") (List.mem_of_getElem? (i := 1) rfl)) (fun _ h9 => h9) rfl (by decide +kernel) rfl rfl (Nat.le_of_ble_eq_true rfl) dX1_keep_40 (fun H locs hP hD hS => ?_)
    have hP : va_P (dC, dI) vwCl [(oW, .inr (1, [.ref oC, .ref oK, .ref nw, .ref w1, .ref w2, .ref w3, .ref o7, .ref o8, .ref o9, .ref w4, .ref w5, .ref w6, .ref w7, .int x_3, .int tl, .int fsh, .int wi, .int ri, .int fm, .int lm])), (w4, .inl (cI, 200, .inl fW4)), (w5, .inl (cI, 200, .inl fW5)), (w6, .inl (cI, 200, .inl fW6)), (w7, .inl (cI, 200, .inl fW7))] H := hP
    have hD : va_D A [(oW, .inr (1, [.ref oC, .ref oK, .ref nw, .ref w1, .ref w2, .ref w3, .ref o7, .ref o8, .ref o9, .ref w4, .ref w5, .ref w6, .ref w7, .int x_3, .int tl, .int fsh, .int wi, .int ri, .int fm, .int lm])), (w4, .inl (cI, 200, .inl fW4)), (w5, .inl (cI, 200, .inl fW5)), (w6, .inl (cI, 200, .inl fW6)), (w7, .inl (cI, 200, .inl fW7))] := hD
    have LOOP_43 : ∀ (k_43 : Nat) (pl : Int32) (fd_ : Nat → Int32) (fe_ : Nat → Int32) (ff_ : Nat → Int32) (fg_ : Nat → Int32) (H : Heap) (locs : List Loc) (ls : Array Slot), (pl.toInt : Int).toNat < k_43 → (0 ≤ pl.toInt ∧ pl.toInt ≤ 199) → (pl.toInt ≤ ke.toInt) → (KPL fW4 fW5 fW6 fW7 fd_ fe_ ff_ fg_ pl.toInt (x_2.toInt)) → (∀ i : Nat, pl.toInt ≤ i → i < ke.toNatClampNeg → sm.toInt < CA fW4 fW5 fW6 fW7 i 2) → va_P (dC, dI) vwCl [(oW, .inr (1, [.ref oC, .ref oK, .ref nw, .ref w1, .ref w2, .ref w3, .ref o7, .ref o8, .ref o9, .ref w4, .ref w5, .ref w6, .ref w7, .int x_3, .int tl, .int fsh, .int wi, .int ri, .int fm, .int lm])), (w4, .inl (cI, 200, .inl fd_)), (w5, .inl (cI, 200, .inl fe_)), (w6, .inl (cI, 200, .inl ff_)), (w7, .inl (cI, 200, .inl fg_))] H → va_D A [(oW, .inr (1, [.ref oC, .ref oK, .ref nw, .ref w1, .ref w2, .ref w3, .ref o7, .ref o8, .ref o9, .ref w4, .ref w5, .ref w6, .ref w7, .int x_3, .int tl, .int fsh, .int wi, .int ri, .int fm, .int lm])), (w4, .inl (cI, 200, .inl fd_)), (w5, .inl (cI, 200, .inl fe_)), (w6, .inl (cI, 200, .inl ff_)), (w7, .inl (cI, 200, .inl fg_))] → va_S A s.heap H locs → lv_has ls 6 [(5, .int pl), (0, .ref oW), (1, .int a), (2, .int b), (3, .int sm), (4, .int ls_)] → W p l e (headSpec wsX1_keep ({ frames := 1, cells := 0, slots := 0, locals := 21 } : Room)).room s m ([.ref oW, .int a, .int b, .int sm, .int ls_] : List Value).toArray below meth c H locs 0 0 (MQ below QQ ([.ref oW, .int a, .int b, .int sm, .int ls_] : List Value).toArray s 0 0 A) (F0 m 43 ls []) := by
      intro k_43
      induction k_43 with
      | zero =>
        intro pl fd_ fe_ ff_ fg_ H locs ls hm_43 g_pl hpk hkp hbg hP hD hS hl
        exact absurd hm_43 (Nat.not_lt_zero _)
      | succ k_43 ih_43 =>
        intro pl fd_ fe_ ff_ fg_ H locs ls hm_43 g_pl hpk hkp hbg hP hD hS hl
        refine lv_iload hx hb dX1_keep_43 (lv_at hl 0 rfl) ?_
        refine lv_if_le (tgt := 131) hx hb dX1_keep_45 (by decide) (fun c_4 => ?_) (fun c_4 => ?_)
        · have tc_4 : pl.toInt ≤ 0 := v_le c_4
          refine lv_aload_n hx hb dX1_keep_131 rfl (lv_at hl 1 rfl) ?_
          refine va_get (D := (dC, dI)) (ci := 1) (v := .ref w4) (C := RX1) (T := TX1) (N := 20) hx hb hts in_X1 hown hK hP 0 rfl rfl 9 (by decide) (hts (.fieldLink RX1 30 "TextMender$Choices" "firstByte" "[I") (List.mem_of_getElem? (i := 7) rfl)) (fun _ h9 => h9) rfl dX1_keep_132 ?_
          refine lv_iload hx hb dX1_keep_135 (lv_at hl 0 rfl) ?_
          refine lv_iload_n hx hb dX1_keep_137 rfl (lv_at hl 2 rfl) ?_
          refine lv_iconst (v := (-1)) hx hb dX1_keep_138 (by decide) ?_
          refine lv_icmp_ne (tgt := 146) hx hb dX1_keep_139 (by decide) (fun c_5 => ?_) (fun c_5 => ?_)
          · have tc_5 : ¬ a.toInt = (-1) := v_ne c_5
            refine lv_iload_n hx hb dX1_keep_146 rfl (lv_at hl 2 rfl) ?_
            refine va_iast hx hb hK hP hD hS 1 0 rfl rfl (v_in (by omega)) dX1_keep_147 (fun H locs hP hD hS => ?_)
            have hP : va_P (dC, dI) vwCl [(oW, .inr (1, [.ref oC, .ref oK, .ref nw, .ref w1, .ref w2, .ref w3, .ref o7, .ref o8, .ref o9, .ref w4, .ref w5, .ref w6, .ref w7, .int x_3, .int tl, .int fsh, .int wi, .int ri, .int fm, .int lm])), (w4, .inl (cI, 200, .inl (upd fd_ (pl : Int32).toNatClampNeg a))), (w5, .inl (cI, 200, .inl fe_)), (w6, .inl (cI, 200, .inl ff_)), (w7, .inl (cI, 200, .inl fg_))] H := hP
            have hD : va_D A [(oW, .inr (1, [.ref oC, .ref oK, .ref nw, .ref w1, .ref w2, .ref w3, .ref o7, .ref o8, .ref o9, .ref w4, .ref w5, .ref w6, .ref w7, .int x_3, .int tl, .int fsh, .int wi, .int ri, .int fm, .int lm])), (w4, .inl (cI, 200, .inl (upd fd_ (pl : Int32).toNatClampNeg a))), (w5, .inl (cI, 200, .inl fe_)), (w6, .inl (cI, 200, .inl ff_)), (w7, .inl (cI, 200, .inl fg_))] := hD
            obtain ⟨f_6, ef_6⟩ : ∃ g : Nat → Int32, g = upd fd_ (pl : Int32).toNatClampNeg a := ⟨_, rfl⟩
            rw [← ef_6] at hP hD
            refine lv_aload_n hx hb dX1_keep_148 rfl (lv_at hl 1 rfl) ?_
            refine va_get (D := (dC, dI)) (ci := 1) (v := .ref w5) (C := RX1) (T := TX1) (N := 20) hx hb hts in_X1 hown hK hP 0 rfl rfl 10 (by decide) (hts (.fieldLink RX1 33 "TextMender$Choices" "secondByte" "[I") (List.mem_of_getElem? (i := 8) rfl)) (fun _ h9 => h9) rfl dX1_keep_149 ?_
            refine lv_iload hx hb dX1_keep_152 (lv_at hl 0 rfl) ?_
            refine lv_iload_n hx hb dX1_keep_154 rfl (lv_at hl 2 rfl) ?_
            refine lv_iconst (v := (-1)) hx hb dX1_keep_155 (by decide) ?_
            refine lv_icmp_ne (tgt := 163) hx hb dX1_keep_156 (by decide) (fun c_7 => ?_) (fun c_7 => by exfalso; have tc_7 : a.toInt = (-1) := v_eq c_7; omega)
            have tc_7 : ¬ a.toInt = (-1) := v_ne c_7
            refine lv_iload_n hx hb dX1_keep_163 rfl (lv_at hl 3 rfl) ?_
            refine va_iast hx hb hK hP hD hS 2 0 rfl rfl (v_in (by omega)) dX1_keep_164 (fun H locs hP hD hS => ?_)
            have hP : va_P (dC, dI) vwCl [(oW, .inr (1, [.ref oC, .ref oK, .ref nw, .ref w1, .ref w2, .ref w3, .ref o7, .ref o8, .ref o9, .ref w4, .ref w5, .ref w6, .ref w7, .int x_3, .int tl, .int fsh, .int wi, .int ri, .int fm, .int lm])), (w4, .inl (cI, 200, .inl f_6)), (w5, .inl (cI, 200, .inl (upd fe_ (pl : Int32).toNatClampNeg b))), (w6, .inl (cI, 200, .inl ff_)), (w7, .inl (cI, 200, .inl fg_))] H := hP
            have hD : va_D A [(oW, .inr (1, [.ref oC, .ref oK, .ref nw, .ref w1, .ref w2, .ref w3, .ref o7, .ref o8, .ref o9, .ref w4, .ref w5, .ref w6, .ref w7, .int x_3, .int tl, .int fsh, .int wi, .int ri, .int fm, .int lm])), (w4, .inl (cI, 200, .inl f_6)), (w5, .inl (cI, 200, .inl (upd fe_ (pl : Int32).toNatClampNeg b))), (w6, .inl (cI, 200, .inl ff_)), (w7, .inl (cI, 200, .inl fg_))] := hD
            obtain ⟨f_8, ef_8⟩ : ∃ g : Nat → Int32, g = upd fe_ (pl : Int32).toNatClampNeg b := ⟨_, rfl⟩
            rw [← ef_8] at hP hD
            refine lv_aload_n hx hb dX1_keep_165 rfl (lv_at hl 1 rfl) ?_
            refine va_get (D := (dC, dI)) (ci := 1) (v := .ref w6) (C := RX1) (T := TX1) (N := 20) hx hb hts in_X1 hown hK hP 0 rfl rfl 11 (by decide) (hts (.fieldLink RX1 36 "TextMender$Choices" "costOf" "[I") (List.mem_of_getElem? (i := 2) rfl)) (fun _ h9 => h9) rfl dX1_keep_166 ?_
            refine lv_iload hx hb dX1_keep_169 (lv_at hl 0 rfl) ?_
            refine lv_iload_n hx hb dX1_keep_171 rfl (lv_at hl 4 rfl) ?_
            refine va_iast hx hb hK hP hD hS 3 0 rfl rfl (v_in (by omega)) dX1_keep_172 (fun H locs hP hD hS => ?_)
            have hP : va_P (dC, dI) vwCl [(oW, .inr (1, [.ref oC, .ref oK, .ref nw, .ref w1, .ref w2, .ref w3, .ref o7, .ref o8, .ref o9, .ref w4, .ref w5, .ref w6, .ref w7, .int x_3, .int tl, .int fsh, .int wi, .int ri, .int fm, .int lm])), (w4, .inl (cI, 200, .inl f_6)), (w5, .inl (cI, 200, .inl f_8)), (w6, .inl (cI, 200, .inl (upd ff_ (pl : Int32).toNatClampNeg sm))), (w7, .inl (cI, 200, .inl fg_))] H := hP
            have hD : va_D A [(oW, .inr (1, [.ref oC, .ref oK, .ref nw, .ref w1, .ref w2, .ref w3, .ref o7, .ref o8, .ref o9, .ref w4, .ref w5, .ref w6, .ref w7, .int x_3, .int tl, .int fsh, .int wi, .int ri, .int fm, .int lm])), (w4, .inl (cI, 200, .inl f_6)), (w5, .inl (cI, 200, .inl f_8)), (w6, .inl (cI, 200, .inl (upd ff_ (pl : Int32).toNatClampNeg sm))), (w7, .inl (cI, 200, .inl fg_))] := hD
            obtain ⟨f_9, ef_9⟩ : ∃ g : Nat → Int32, g = upd ff_ (pl : Int32).toNatClampNeg sm := ⟨_, rfl⟩
            rw [← ef_9] at hP hD
            refine lv_aload_n hx hb dX1_keep_173 rfl (lv_at hl 1 rfl) ?_
            refine va_get (D := (dC, dI)) (ci := 1) (v := .ref w7) (C := RX1) (T := TX1) (N := 20) hx hb hts in_X1 hown hK hP 0 rfl rfl 12 (by decide) (hts (.fieldLink RX1 39 "TextMender$Choices" "lengthOf" "[I") (List.mem_of_getElem? (i := 9) rfl)) (fun _ h9 => h9) rfl dX1_keep_174 ?_
            refine lv_iload hx hb dX1_keep_177 (lv_at hl 0 rfl) ?_
            refine lv_iload hx hb dX1_keep_179 (lv_at hl 5 rfl) ?_
            refine va_iast hx hb hK hP hD hS 4 0 rfl rfl (v_in (by omega)) dX1_keep_181 (fun H locs hP hD hS => ?_)
            have hP : va_P (dC, dI) vwCl [(oW, .inr (1, [.ref oC, .ref oK, .ref nw, .ref w1, .ref w2, .ref w3, .ref o7, .ref o8, .ref o9, .ref w4, .ref w5, .ref w6, .ref w7, .int x_3, .int tl, .int fsh, .int wi, .int ri, .int fm, .int lm])), (w4, .inl (cI, 200, .inl f_6)), (w5, .inl (cI, 200, .inl f_8)), (w6, .inl (cI, 200, .inl f_9)), (w7, .inl (cI, 200, .inl (upd fg_ (pl : Int32).toNatClampNeg ls_)))] H := hP
            have hD : va_D A [(oW, .inr (1, [.ref oC, .ref oK, .ref nw, .ref w1, .ref w2, .ref w3, .ref o7, .ref o8, .ref o9, .ref w4, .ref w5, .ref w6, .ref w7, .int x_3, .int tl, .int fsh, .int wi, .int ri, .int fm, .int lm])), (w4, .inl (cI, 200, .inl f_6)), (w5, .inl (cI, 200, .inl f_8)), (w6, .inl (cI, 200, .inl f_9)), (w7, .inl (cI, 200, .inl (upd fg_ (pl : Int32).toNatClampNeg ls_)))] := hD
            obtain ⟨f_10, ef_10⟩ : ∃ g : Nat → Int32, g = upd fg_ (pl : Int32).toNatClampNeg ls_ := ⟨_, rfl⟩
            rw [← ef_10] at hP hD
            have hP9 := hP.sub (ws' := [(oW, .inr (1, [.ref oC, .ref oK, .ref nw, .ref w1, .ref w2, .ref w3, .ref o7, .ref o8, .ref o9, .ref w4, .ref w5, .ref w6, .ref w7, .int x_3, .int tl, .int fsh, .int wi, .int ri, .int fm, .int lm])), (w4, .inl (cI, 200, .inl f_6)), (w5, .inl (cI, 200, .inl f_8)), (w6, .inl (cI, 200, .inl f_9)), (w7, .inl (cI, 200, .inl f_10))]) [0, 1, 2, 3, 4] rfl
            have hD9 := hD.sub (ws' := [(oW, .inr (1, [.ref oC, .ref oK, .ref nw, .ref w1, .ref w2, .ref w3, .ref o7, .ref o8, .ref o9, .ref w4, .ref w5, .ref w6, .ref w7, .int x_3, .int tl, .int fsh, .int wi, .int ri, .int fm, .int lm])), (w4, .inl (cI, 200, .inl f_6)), (w5, .inl (cI, 200, .inl f_8)), (w6, .inl (cI, 200, .inl f_9)), (w7, .inl (cI, 200, .inl f_10))]) [0, 1, 2, 3, 4] (by decide) rfl
            rw [hQQ]
            exact W.vret hx hb hr (fun t ht hW => ⟨⟨(), rfl, trivial, ⟨x_3, f_6, f_8, f_9, f_10, by rw [ht]; exact hP9, hD9, by omega, by show (ke.toInt < 200 ∧ x_3.toInt = ke.toInt + 1) ∨ (ke.toInt = 200 ∧ x_3.toInt = 200); omega, kp_end hkp hsr (by omega) (by omega) (by have c8 := v_clamp (x := x_3) (by omega); omega) ef_6 ef_8 ef_9 ef_10 (by show _ = (if a.toInt = -1 then b.toInt else a.toInt); rw [if_neg (by omega)]) (by show _ = (if a.toInt = -1 then -1 else b.toInt); rw [if_neg (by omega)]) rfl rfl hbg (Or.inl (by omega))⟩⟩, hS.F ht⟩) hS.2.2 dX1_keep_182
          · have tc_5 : a.toInt = (-1) := v_eq c_5
            refine lv_iload_n hx hb dX1_keep_142 rfl (lv_at hl 3 rfl) ?_
            refine lv_goto (tgt := 147) hx hb dX1_keep_143 (by decide) ?_
            refine va_iast hx hb hK hP hD hS 1 0 rfl rfl (v_in (by omega)) dX1_keep_147 (fun H locs hP hD hS => ?_)
            have hP : va_P (dC, dI) vwCl [(oW, .inr (1, [.ref oC, .ref oK, .ref nw, .ref w1, .ref w2, .ref w3, .ref o7, .ref o8, .ref o9, .ref w4, .ref w5, .ref w6, .ref w7, .int x_3, .int tl, .int fsh, .int wi, .int ri, .int fm, .int lm])), (w4, .inl (cI, 200, .inl (upd fd_ (pl : Int32).toNatClampNeg b))), (w5, .inl (cI, 200, .inl fe_)), (w6, .inl (cI, 200, .inl ff_)), (w7, .inl (cI, 200, .inl fg_))] H := hP
            have hD : va_D A [(oW, .inr (1, [.ref oC, .ref oK, .ref nw, .ref w1, .ref w2, .ref w3, .ref o7, .ref o8, .ref o9, .ref w4, .ref w5, .ref w6, .ref w7, .int x_3, .int tl, .int fsh, .int wi, .int ri, .int fm, .int lm])), (w4, .inl (cI, 200, .inl (upd fd_ (pl : Int32).toNatClampNeg b))), (w5, .inl (cI, 200, .inl fe_)), (w6, .inl (cI, 200, .inl ff_)), (w7, .inl (cI, 200, .inl fg_))] := hD
            obtain ⟨f_11, ef_11⟩ : ∃ g : Nat → Int32, g = upd fd_ (pl : Int32).toNatClampNeg b := ⟨_, rfl⟩
            rw [← ef_11] at hP hD
            refine lv_aload_n hx hb dX1_keep_148 rfl (lv_at hl 1 rfl) ?_
            refine va_get (D := (dC, dI)) (ci := 1) (v := .ref w5) (C := RX1) (T := TX1) (N := 20) hx hb hts in_X1 hown hK hP 0 rfl rfl 10 (by decide) (hts (.fieldLink RX1 33 "TextMender$Choices" "secondByte" "[I") (List.mem_of_getElem? (i := 8) rfl)) (fun _ h9 => h9) rfl dX1_keep_149 ?_
            refine lv_iload hx hb dX1_keep_152 (lv_at hl 0 rfl) ?_
            refine lv_iload_n hx hb dX1_keep_154 rfl (lv_at hl 2 rfl) ?_
            refine lv_iconst (v := (-1)) hx hb dX1_keep_155 (by decide) ?_
            refine lv_icmp_ne (tgt := 163) hx hb dX1_keep_156 (by decide) (fun c_12 => by exfalso; have tc_12 : ¬ a.toInt = (-1) := v_ne c_12; omega) (fun c_12 => ?_)
            have tc_12 : a.toInt = (-1) := v_eq c_12
            refine lv_iconst (v := (-1)) hx hb dX1_keep_159 (by decide) ?_
            refine lv_goto (tgt := 164) hx hb dX1_keep_160 (by decide) ?_
            refine va_iast hx hb hK hP hD hS 2 0 rfl rfl (v_in (by omega)) dX1_keep_164 (fun H locs hP hD hS => ?_)
            have hP : va_P (dC, dI) vwCl [(oW, .inr (1, [.ref oC, .ref oK, .ref nw, .ref w1, .ref w2, .ref w3, .ref o7, .ref o8, .ref o9, .ref w4, .ref w5, .ref w6, .ref w7, .int x_3, .int tl, .int fsh, .int wi, .int ri, .int fm, .int lm])), (w4, .inl (cI, 200, .inl f_11)), (w5, .inl (cI, 200, .inl (upd fe_ (pl : Int32).toNatClampNeg (-1)))), (w6, .inl (cI, 200, .inl ff_)), (w7, .inl (cI, 200, .inl fg_))] H := hP
            have hD : va_D A [(oW, .inr (1, [.ref oC, .ref oK, .ref nw, .ref w1, .ref w2, .ref w3, .ref o7, .ref o8, .ref o9, .ref w4, .ref w5, .ref w6, .ref w7, .int x_3, .int tl, .int fsh, .int wi, .int ri, .int fm, .int lm])), (w4, .inl (cI, 200, .inl f_11)), (w5, .inl (cI, 200, .inl (upd fe_ (pl : Int32).toNatClampNeg (-1)))), (w6, .inl (cI, 200, .inl ff_)), (w7, .inl (cI, 200, .inl fg_))] := hD
            obtain ⟨f_13, ef_13⟩ : ∃ g : Nat → Int32, g = upd fe_ (pl : Int32).toNatClampNeg (-1) := ⟨_, rfl⟩
            rw [← ef_13] at hP hD
            refine lv_aload_n hx hb dX1_keep_165 rfl (lv_at hl 1 rfl) ?_
            refine va_get (D := (dC, dI)) (ci := 1) (v := .ref w6) (C := RX1) (T := TX1) (N := 20) hx hb hts in_X1 hown hK hP 0 rfl rfl 11 (by decide) (hts (.fieldLink RX1 36 "TextMender$Choices" "costOf" "[I") (List.mem_of_getElem? (i := 2) rfl)) (fun _ h9 => h9) rfl dX1_keep_166 ?_
            refine lv_iload hx hb dX1_keep_169 (lv_at hl 0 rfl) ?_
            refine lv_iload_n hx hb dX1_keep_171 rfl (lv_at hl 4 rfl) ?_
            refine va_iast hx hb hK hP hD hS 3 0 rfl rfl (v_in (by omega)) dX1_keep_172 (fun H locs hP hD hS => ?_)
            have hP : va_P (dC, dI) vwCl [(oW, .inr (1, [.ref oC, .ref oK, .ref nw, .ref w1, .ref w2, .ref w3, .ref o7, .ref o8, .ref o9, .ref w4, .ref w5, .ref w6, .ref w7, .int x_3, .int tl, .int fsh, .int wi, .int ri, .int fm, .int lm])), (w4, .inl (cI, 200, .inl f_11)), (w5, .inl (cI, 200, .inl f_13)), (w6, .inl (cI, 200, .inl (upd ff_ (pl : Int32).toNatClampNeg sm))), (w7, .inl (cI, 200, .inl fg_))] H := hP
            have hD : va_D A [(oW, .inr (1, [.ref oC, .ref oK, .ref nw, .ref w1, .ref w2, .ref w3, .ref o7, .ref o8, .ref o9, .ref w4, .ref w5, .ref w6, .ref w7, .int x_3, .int tl, .int fsh, .int wi, .int ri, .int fm, .int lm])), (w4, .inl (cI, 200, .inl f_11)), (w5, .inl (cI, 200, .inl f_13)), (w6, .inl (cI, 200, .inl (upd ff_ (pl : Int32).toNatClampNeg sm))), (w7, .inl (cI, 200, .inl fg_))] := hD
            obtain ⟨f_14, ef_14⟩ : ∃ g : Nat → Int32, g = upd ff_ (pl : Int32).toNatClampNeg sm := ⟨_, rfl⟩
            rw [← ef_14] at hP hD
            refine lv_aload_n hx hb dX1_keep_173 rfl (lv_at hl 1 rfl) ?_
            refine va_get (D := (dC, dI)) (ci := 1) (v := .ref w7) (C := RX1) (T := TX1) (N := 20) hx hb hts in_X1 hown hK hP 0 rfl rfl 12 (by decide) (hts (.fieldLink RX1 39 "TextMender$Choices" "lengthOf" "[I") (List.mem_of_getElem? (i := 9) rfl)) (fun _ h9 => h9) rfl dX1_keep_174 ?_
            refine lv_iload hx hb dX1_keep_177 (lv_at hl 0 rfl) ?_
            refine lv_iload hx hb dX1_keep_179 (lv_at hl 5 rfl) ?_
            refine va_iast hx hb hK hP hD hS 4 0 rfl rfl (v_in (by omega)) dX1_keep_181 (fun H locs hP hD hS => ?_)
            have hP : va_P (dC, dI) vwCl [(oW, .inr (1, [.ref oC, .ref oK, .ref nw, .ref w1, .ref w2, .ref w3, .ref o7, .ref o8, .ref o9, .ref w4, .ref w5, .ref w6, .ref w7, .int x_3, .int tl, .int fsh, .int wi, .int ri, .int fm, .int lm])), (w4, .inl (cI, 200, .inl f_11)), (w5, .inl (cI, 200, .inl f_13)), (w6, .inl (cI, 200, .inl f_14)), (w7, .inl (cI, 200, .inl (upd fg_ (pl : Int32).toNatClampNeg ls_)))] H := hP
            have hD : va_D A [(oW, .inr (1, [.ref oC, .ref oK, .ref nw, .ref w1, .ref w2, .ref w3, .ref o7, .ref o8, .ref o9, .ref w4, .ref w5, .ref w6, .ref w7, .int x_3, .int tl, .int fsh, .int wi, .int ri, .int fm, .int lm])), (w4, .inl (cI, 200, .inl f_11)), (w5, .inl (cI, 200, .inl f_13)), (w6, .inl (cI, 200, .inl f_14)), (w7, .inl (cI, 200, .inl (upd fg_ (pl : Int32).toNatClampNeg ls_)))] := hD
            obtain ⟨f_15, ef_15⟩ : ∃ g : Nat → Int32, g = upd fg_ (pl : Int32).toNatClampNeg ls_ := ⟨_, rfl⟩
            rw [← ef_15] at hP hD
            have hP9 := hP.sub (ws' := [(oW, .inr (1, [.ref oC, .ref oK, .ref nw, .ref w1, .ref w2, .ref w3, .ref o7, .ref o8, .ref o9, .ref w4, .ref w5, .ref w6, .ref w7, .int x_3, .int tl, .int fsh, .int wi, .int ri, .int fm, .int lm])), (w4, .inl (cI, 200, .inl f_11)), (w5, .inl (cI, 200, .inl f_13)), (w6, .inl (cI, 200, .inl f_14)), (w7, .inl (cI, 200, .inl f_15))]) [0, 1, 2, 3, 4] rfl
            have hD9 := hD.sub (ws' := [(oW, .inr (1, [.ref oC, .ref oK, .ref nw, .ref w1, .ref w2, .ref w3, .ref o7, .ref o8, .ref o9, .ref w4, .ref w5, .ref w6, .ref w7, .int x_3, .int tl, .int fsh, .int wi, .int ri, .int fm, .int lm])), (w4, .inl (cI, 200, .inl f_11)), (w5, .inl (cI, 200, .inl f_13)), (w6, .inl (cI, 200, .inl f_14)), (w7, .inl (cI, 200, .inl f_15))]) [0, 1, 2, 3, 4] (by decide) rfl
            rw [hQQ]
            exact W.vret hx hb hr (fun t ht hW => ⟨⟨(), rfl, trivial, ⟨x_3, f_11, f_13, f_14, f_15, by rw [ht]; exact hP9, hD9, by omega, by show (ke.toInt < 200 ∧ x_3.toInt = ke.toInt + 1) ∨ (ke.toInt = 200 ∧ x_3.toInt = 200); omega, kp_end hkp hsr (by omega) (by omega) (by have c8 := v_clamp (x := x_3) (by omega); omega) ef_11 ef_13 ef_14 ef_15 (by show _ = (if a.toInt = -1 then b.toInt else a.toInt); rw [if_pos (by omega)]) (by show _ = (if a.toInt = -1 then -1 else b.toInt); rw [if_pos (by omega)]; rfl) rfl rfl hbg (Or.inl (by omega))⟩⟩, hS.F ht⟩) hS.2.2 dX1_keep_182
        · have tc_4 : 0 < pl.toInt := v_nle c_4
          refine lv_aload_n hx hb dX1_keep_48 rfl (lv_at hl 1 rfl) ?_
          refine va_get (D := (dC, dI)) (ci := 1) (v := .ref w6) (C := RX1) (T := TX1) (N := 20) hx hb hts in_X1 hown hK hP 0 rfl rfl 11 (by decide) (hts (.fieldLink RX1 36 "TextMender$Choices" "costOf" "[I") (List.mem_of_getElem? (i := 2) rfl)) (fun _ h9 => h9) rfl dX1_keep_49 ?_
          refine lv_iload hx hb dX1_keep_52 (lv_at hl 0 rfl) ?_
          refine lv_iconst (v := 1) hx hb dX1_keep_54 (by decide) ?_
          refine lv_isub hx hb dX1_keep_55 ?_
          refine lv_topi (fun x_16 ex_16 => ?_)
          have tx_16 : x_16.toInt = pl.toInt - 1 := v_sub ex_16 (by show -2147483648 ≤ pl.toInt - 1; omega) (by show pl.toInt - 1 < 2147483648; omega)
          refine va_iald hx hb hK hP 3 0 rfl rfl (v_in (by omega)) dX1_keep_56 ?_
          refine lv_topi (fun x_17 ex_17 => ?_)
          refine lv_iload_n hx hb dX1_keep_57 rfl (lv_at hl 4 rfl) ?_
          refine lv_icmp_le (tgt := 131) hx hb dX1_keep_58 (by decide) (fun c_18 => ?_) (fun c_18 => ?_)
          · have tc_18 : x_17.toInt ≤ sm.toInt := v_le c_18
            have rw18_0 := v_rng x_17
            have rw18_1 := v_rng sm
            refine lv_aload_n hx hb dX1_keep_131 rfl (lv_at hl 1 rfl) ?_
            refine va_get (D := (dC, dI)) (ci := 1) (v := .ref w4) (C := RX1) (T := TX1) (N := 20) hx hb hts in_X1 hown hK hP 0 rfl rfl 9 (by decide) (hts (.fieldLink RX1 30 "TextMender$Choices" "firstByte" "[I") (List.mem_of_getElem? (i := 7) rfl)) (fun _ h9 => h9) rfl dX1_keep_132 ?_
            refine lv_iload hx hb dX1_keep_135 (lv_at hl 0 rfl) ?_
            refine lv_iload_n hx hb dX1_keep_137 rfl (lv_at hl 2 rfl) ?_
            refine lv_iconst (v := (-1)) hx hb dX1_keep_138 (by decide) ?_
            refine lv_icmp_ne (tgt := 146) hx hb dX1_keep_139 (by decide) (fun c_19 => ?_) (fun c_19 => ?_)
            · have tc_19 : ¬ a.toInt = (-1) := v_ne c_19
              refine lv_iload_n hx hb dX1_keep_146 rfl (lv_at hl 2 rfl) ?_
              refine va_iast hx hb hK hP hD hS 1 0 rfl rfl (v_in (by omega)) dX1_keep_147 (fun H locs hP hD hS => ?_)
              have hP : va_P (dC, dI) vwCl [(oW, .inr (1, [.ref oC, .ref oK, .ref nw, .ref w1, .ref w2, .ref w3, .ref o7, .ref o8, .ref o9, .ref w4, .ref w5, .ref w6, .ref w7, .int x_3, .int tl, .int fsh, .int wi, .int ri, .int fm, .int lm])), (w4, .inl (cI, 200, .inl (upd fd_ (pl : Int32).toNatClampNeg a))), (w5, .inl (cI, 200, .inl fe_)), (w6, .inl (cI, 200, .inl ff_)), (w7, .inl (cI, 200, .inl fg_))] H := hP
              have hD : va_D A [(oW, .inr (1, [.ref oC, .ref oK, .ref nw, .ref w1, .ref w2, .ref w3, .ref o7, .ref o8, .ref o9, .ref w4, .ref w5, .ref w6, .ref w7, .int x_3, .int tl, .int fsh, .int wi, .int ri, .int fm, .int lm])), (w4, .inl (cI, 200, .inl (upd fd_ (pl : Int32).toNatClampNeg a))), (w5, .inl (cI, 200, .inl fe_)), (w6, .inl (cI, 200, .inl ff_)), (w7, .inl (cI, 200, .inl fg_))] := hD
              obtain ⟨f_20, ef_20⟩ : ∃ g : Nat → Int32, g = upd fd_ (pl : Int32).toNatClampNeg a := ⟨_, rfl⟩
              rw [← ef_20] at hP hD
              refine lv_aload_n hx hb dX1_keep_148 rfl (lv_at hl 1 rfl) ?_
              refine va_get (D := (dC, dI)) (ci := 1) (v := .ref w5) (C := RX1) (T := TX1) (N := 20) hx hb hts in_X1 hown hK hP 0 rfl rfl 10 (by decide) (hts (.fieldLink RX1 33 "TextMender$Choices" "secondByte" "[I") (List.mem_of_getElem? (i := 8) rfl)) (fun _ h9 => h9) rfl dX1_keep_149 ?_
              refine lv_iload hx hb dX1_keep_152 (lv_at hl 0 rfl) ?_
              refine lv_iload_n hx hb dX1_keep_154 rfl (lv_at hl 2 rfl) ?_
              refine lv_iconst (v := (-1)) hx hb dX1_keep_155 (by decide) ?_
              refine lv_icmp_ne (tgt := 163) hx hb dX1_keep_156 (by decide) (fun c_21 => ?_) (fun c_21 => by exfalso; have tc_21 : a.toInt = (-1) := v_eq c_21; omega)
              have tc_21 : ¬ a.toInt = (-1) := v_ne c_21
              refine lv_iload_n hx hb dX1_keep_163 rfl (lv_at hl 3 rfl) ?_
              refine va_iast hx hb hK hP hD hS 2 0 rfl rfl (v_in (by omega)) dX1_keep_164 (fun H locs hP hD hS => ?_)
              have hP : va_P (dC, dI) vwCl [(oW, .inr (1, [.ref oC, .ref oK, .ref nw, .ref w1, .ref w2, .ref w3, .ref o7, .ref o8, .ref o9, .ref w4, .ref w5, .ref w6, .ref w7, .int x_3, .int tl, .int fsh, .int wi, .int ri, .int fm, .int lm])), (w4, .inl (cI, 200, .inl f_20)), (w5, .inl (cI, 200, .inl (upd fe_ (pl : Int32).toNatClampNeg b))), (w6, .inl (cI, 200, .inl ff_)), (w7, .inl (cI, 200, .inl fg_))] H := hP
              have hD : va_D A [(oW, .inr (1, [.ref oC, .ref oK, .ref nw, .ref w1, .ref w2, .ref w3, .ref o7, .ref o8, .ref o9, .ref w4, .ref w5, .ref w6, .ref w7, .int x_3, .int tl, .int fsh, .int wi, .int ri, .int fm, .int lm])), (w4, .inl (cI, 200, .inl f_20)), (w5, .inl (cI, 200, .inl (upd fe_ (pl : Int32).toNatClampNeg b))), (w6, .inl (cI, 200, .inl ff_)), (w7, .inl (cI, 200, .inl fg_))] := hD
              obtain ⟨f_22, ef_22⟩ : ∃ g : Nat → Int32, g = upd fe_ (pl : Int32).toNatClampNeg b := ⟨_, rfl⟩
              rw [← ef_22] at hP hD
              refine lv_aload_n hx hb dX1_keep_165 rfl (lv_at hl 1 rfl) ?_
              refine va_get (D := (dC, dI)) (ci := 1) (v := .ref w6) (C := RX1) (T := TX1) (N := 20) hx hb hts in_X1 hown hK hP 0 rfl rfl 11 (by decide) (hts (.fieldLink RX1 36 "TextMender$Choices" "costOf" "[I") (List.mem_of_getElem? (i := 2) rfl)) (fun _ h9 => h9) rfl dX1_keep_166 ?_
              refine lv_iload hx hb dX1_keep_169 (lv_at hl 0 rfl) ?_
              refine lv_iload_n hx hb dX1_keep_171 rfl (lv_at hl 4 rfl) ?_
              refine va_iast hx hb hK hP hD hS 3 0 rfl rfl (v_in (by omega)) dX1_keep_172 (fun H locs hP hD hS => ?_)
              have hP : va_P (dC, dI) vwCl [(oW, .inr (1, [.ref oC, .ref oK, .ref nw, .ref w1, .ref w2, .ref w3, .ref o7, .ref o8, .ref o9, .ref w4, .ref w5, .ref w6, .ref w7, .int x_3, .int tl, .int fsh, .int wi, .int ri, .int fm, .int lm])), (w4, .inl (cI, 200, .inl f_20)), (w5, .inl (cI, 200, .inl f_22)), (w6, .inl (cI, 200, .inl (upd ff_ (pl : Int32).toNatClampNeg sm))), (w7, .inl (cI, 200, .inl fg_))] H := hP
              have hD : va_D A [(oW, .inr (1, [.ref oC, .ref oK, .ref nw, .ref w1, .ref w2, .ref w3, .ref o7, .ref o8, .ref o9, .ref w4, .ref w5, .ref w6, .ref w7, .int x_3, .int tl, .int fsh, .int wi, .int ri, .int fm, .int lm])), (w4, .inl (cI, 200, .inl f_20)), (w5, .inl (cI, 200, .inl f_22)), (w6, .inl (cI, 200, .inl (upd ff_ (pl : Int32).toNatClampNeg sm))), (w7, .inl (cI, 200, .inl fg_))] := hD
              obtain ⟨f_23, ef_23⟩ : ∃ g : Nat → Int32, g = upd ff_ (pl : Int32).toNatClampNeg sm := ⟨_, rfl⟩
              rw [← ef_23] at hP hD
              refine lv_aload_n hx hb dX1_keep_173 rfl (lv_at hl 1 rfl) ?_
              refine va_get (D := (dC, dI)) (ci := 1) (v := .ref w7) (C := RX1) (T := TX1) (N := 20) hx hb hts in_X1 hown hK hP 0 rfl rfl 12 (by decide) (hts (.fieldLink RX1 39 "TextMender$Choices" "lengthOf" "[I") (List.mem_of_getElem? (i := 9) rfl)) (fun _ h9 => h9) rfl dX1_keep_174 ?_
              refine lv_iload hx hb dX1_keep_177 (lv_at hl 0 rfl) ?_
              refine lv_iload hx hb dX1_keep_179 (lv_at hl 5 rfl) ?_
              refine va_iast hx hb hK hP hD hS 4 0 rfl rfl (v_in (by omega)) dX1_keep_181 (fun H locs hP hD hS => ?_)
              have hP : va_P (dC, dI) vwCl [(oW, .inr (1, [.ref oC, .ref oK, .ref nw, .ref w1, .ref w2, .ref w3, .ref o7, .ref o8, .ref o9, .ref w4, .ref w5, .ref w6, .ref w7, .int x_3, .int tl, .int fsh, .int wi, .int ri, .int fm, .int lm])), (w4, .inl (cI, 200, .inl f_20)), (w5, .inl (cI, 200, .inl f_22)), (w6, .inl (cI, 200, .inl f_23)), (w7, .inl (cI, 200, .inl (upd fg_ (pl : Int32).toNatClampNeg ls_)))] H := hP
              have hD : va_D A [(oW, .inr (1, [.ref oC, .ref oK, .ref nw, .ref w1, .ref w2, .ref w3, .ref o7, .ref o8, .ref o9, .ref w4, .ref w5, .ref w6, .ref w7, .int x_3, .int tl, .int fsh, .int wi, .int ri, .int fm, .int lm])), (w4, .inl (cI, 200, .inl f_20)), (w5, .inl (cI, 200, .inl f_22)), (w6, .inl (cI, 200, .inl f_23)), (w7, .inl (cI, 200, .inl (upd fg_ (pl : Int32).toNatClampNeg ls_)))] := hD
              obtain ⟨f_24, ef_24⟩ : ∃ g : Nat → Int32, g = upd fg_ (pl : Int32).toNatClampNeg ls_ := ⟨_, rfl⟩
              rw [← ef_24] at hP hD
              have hP9 := hP.sub (ws' := [(oW, .inr (1, [.ref oC, .ref oK, .ref nw, .ref w1, .ref w2, .ref w3, .ref o7, .ref o8, .ref o9, .ref w4, .ref w5, .ref w6, .ref w7, .int x_3, .int tl, .int fsh, .int wi, .int ri, .int fm, .int lm])), (w4, .inl (cI, 200, .inl f_20)), (w5, .inl (cI, 200, .inl f_22)), (w6, .inl (cI, 200, .inl f_23)), (w7, .inl (cI, 200, .inl f_24))]) [0, 1, 2, 3, 4] rfl
              have hD9 := hD.sub (ws' := [(oW, .inr (1, [.ref oC, .ref oK, .ref nw, .ref w1, .ref w2, .ref w3, .ref o7, .ref o8, .ref o9, .ref w4, .ref w5, .ref w6, .ref w7, .int x_3, .int tl, .int fsh, .int wi, .int ri, .int fm, .int lm])), (w4, .inl (cI, 200, .inl f_20)), (w5, .inl (cI, 200, .inl f_22)), (w6, .inl (cI, 200, .inl f_23)), (w7, .inl (cI, 200, .inl f_24))]) [0, 1, 2, 3, 4] (by decide) rfl
              rw [hQQ]
              exact W.vret hx hb hr (fun t ht hW => ⟨⟨(), rfl, trivial, ⟨x_3, f_20, f_22, f_23, f_24, by rw [ht]; exact hP9, hD9, by omega, by show (ke.toInt < 200 ∧ x_3.toInt = ke.toInt + 1) ∨ (ke.toInt = 200 ∧ x_3.toInt = 200); omega, kp_end hkp hsr (by omega) (by omega) (by have c8 := v_clamp (x := x_3) (by omega); omega) ef_20 ef_22 ef_23 ef_24 (by show _ = (if a.toInt = -1 then b.toInt else a.toInt); rw [if_neg (by omega)]) (by show _ = (if a.toInt = -1 then -1 else b.toInt); rw [if_neg (by omega)]) rfl rfl hbg (Or.inr ⟨x_16, x_17, by omega, ex_17, by show _ ≤ sm.toInt; omega⟩)⟩⟩, hS.F ht⟩) hS.2.2 dX1_keep_182
            · have tc_19 : a.toInt = (-1) := v_eq c_19
              refine lv_iload_n hx hb dX1_keep_142 rfl (lv_at hl 3 rfl) ?_
              refine lv_goto (tgt := 147) hx hb dX1_keep_143 (by decide) ?_
              refine va_iast hx hb hK hP hD hS 1 0 rfl rfl (v_in (by omega)) dX1_keep_147 (fun H locs hP hD hS => ?_)
              have hP : va_P (dC, dI) vwCl [(oW, .inr (1, [.ref oC, .ref oK, .ref nw, .ref w1, .ref w2, .ref w3, .ref o7, .ref o8, .ref o9, .ref w4, .ref w5, .ref w6, .ref w7, .int x_3, .int tl, .int fsh, .int wi, .int ri, .int fm, .int lm])), (w4, .inl (cI, 200, .inl (upd fd_ (pl : Int32).toNatClampNeg b))), (w5, .inl (cI, 200, .inl fe_)), (w6, .inl (cI, 200, .inl ff_)), (w7, .inl (cI, 200, .inl fg_))] H := hP
              have hD : va_D A [(oW, .inr (1, [.ref oC, .ref oK, .ref nw, .ref w1, .ref w2, .ref w3, .ref o7, .ref o8, .ref o9, .ref w4, .ref w5, .ref w6, .ref w7, .int x_3, .int tl, .int fsh, .int wi, .int ri, .int fm, .int lm])), (w4, .inl (cI, 200, .inl (upd fd_ (pl : Int32).toNatClampNeg b))), (w5, .inl (cI, 200, .inl fe_)), (w6, .inl (cI, 200, .inl ff_)), (w7, .inl (cI, 200, .inl fg_))] := hD
              obtain ⟨f_25, ef_25⟩ : ∃ g : Nat → Int32, g = upd fd_ (pl : Int32).toNatClampNeg b := ⟨_, rfl⟩
              rw [← ef_25] at hP hD
              refine lv_aload_n hx hb dX1_keep_148 rfl (lv_at hl 1 rfl) ?_
              refine va_get (D := (dC, dI)) (ci := 1) (v := .ref w5) (C := RX1) (T := TX1) (N := 20) hx hb hts in_X1 hown hK hP 0 rfl rfl 10 (by decide) (hts (.fieldLink RX1 33 "TextMender$Choices" "secondByte" "[I") (List.mem_of_getElem? (i := 8) rfl)) (fun _ h9 => h9) rfl dX1_keep_149 ?_
              refine lv_iload hx hb dX1_keep_152 (lv_at hl 0 rfl) ?_
              refine lv_iload_n hx hb dX1_keep_154 rfl (lv_at hl 2 rfl) ?_
              refine lv_iconst (v := (-1)) hx hb dX1_keep_155 (by decide) ?_
              refine lv_icmp_ne (tgt := 163) hx hb dX1_keep_156 (by decide) (fun c_26 => by exfalso; have tc_26 : ¬ a.toInt = (-1) := v_ne c_26; omega) (fun c_26 => ?_)
              have tc_26 : a.toInt = (-1) := v_eq c_26
              refine lv_iconst (v := (-1)) hx hb dX1_keep_159 (by decide) ?_
              refine lv_goto (tgt := 164) hx hb dX1_keep_160 (by decide) ?_
              refine va_iast hx hb hK hP hD hS 2 0 rfl rfl (v_in (by omega)) dX1_keep_164 (fun H locs hP hD hS => ?_)
              have hP : va_P (dC, dI) vwCl [(oW, .inr (1, [.ref oC, .ref oK, .ref nw, .ref w1, .ref w2, .ref w3, .ref o7, .ref o8, .ref o9, .ref w4, .ref w5, .ref w6, .ref w7, .int x_3, .int tl, .int fsh, .int wi, .int ri, .int fm, .int lm])), (w4, .inl (cI, 200, .inl f_25)), (w5, .inl (cI, 200, .inl (upd fe_ (pl : Int32).toNatClampNeg (-1)))), (w6, .inl (cI, 200, .inl ff_)), (w7, .inl (cI, 200, .inl fg_))] H := hP
              have hD : va_D A [(oW, .inr (1, [.ref oC, .ref oK, .ref nw, .ref w1, .ref w2, .ref w3, .ref o7, .ref o8, .ref o9, .ref w4, .ref w5, .ref w6, .ref w7, .int x_3, .int tl, .int fsh, .int wi, .int ri, .int fm, .int lm])), (w4, .inl (cI, 200, .inl f_25)), (w5, .inl (cI, 200, .inl (upd fe_ (pl : Int32).toNatClampNeg (-1)))), (w6, .inl (cI, 200, .inl ff_)), (w7, .inl (cI, 200, .inl fg_))] := hD
              obtain ⟨f_27, ef_27⟩ : ∃ g : Nat → Int32, g = upd fe_ (pl : Int32).toNatClampNeg (-1) := ⟨_, rfl⟩
              rw [← ef_27] at hP hD
              refine lv_aload_n hx hb dX1_keep_165 rfl (lv_at hl 1 rfl) ?_
              refine va_get (D := (dC, dI)) (ci := 1) (v := .ref w6) (C := RX1) (T := TX1) (N := 20) hx hb hts in_X1 hown hK hP 0 rfl rfl 11 (by decide) (hts (.fieldLink RX1 36 "TextMender$Choices" "costOf" "[I") (List.mem_of_getElem? (i := 2) rfl)) (fun _ h9 => h9) rfl dX1_keep_166 ?_
              refine lv_iload hx hb dX1_keep_169 (lv_at hl 0 rfl) ?_
              refine lv_iload_n hx hb dX1_keep_171 rfl (lv_at hl 4 rfl) ?_
              refine va_iast hx hb hK hP hD hS 3 0 rfl rfl (v_in (by omega)) dX1_keep_172 (fun H locs hP hD hS => ?_)
              have hP : va_P (dC, dI) vwCl [(oW, .inr (1, [.ref oC, .ref oK, .ref nw, .ref w1, .ref w2, .ref w3, .ref o7, .ref o8, .ref o9, .ref w4, .ref w5, .ref w6, .ref w7, .int x_3, .int tl, .int fsh, .int wi, .int ri, .int fm, .int lm])), (w4, .inl (cI, 200, .inl f_25)), (w5, .inl (cI, 200, .inl f_27)), (w6, .inl (cI, 200, .inl (upd ff_ (pl : Int32).toNatClampNeg sm))), (w7, .inl (cI, 200, .inl fg_))] H := hP
              have hD : va_D A [(oW, .inr (1, [.ref oC, .ref oK, .ref nw, .ref w1, .ref w2, .ref w3, .ref o7, .ref o8, .ref o9, .ref w4, .ref w5, .ref w6, .ref w7, .int x_3, .int tl, .int fsh, .int wi, .int ri, .int fm, .int lm])), (w4, .inl (cI, 200, .inl f_25)), (w5, .inl (cI, 200, .inl f_27)), (w6, .inl (cI, 200, .inl (upd ff_ (pl : Int32).toNatClampNeg sm))), (w7, .inl (cI, 200, .inl fg_))] := hD
              obtain ⟨f_28, ef_28⟩ : ∃ g : Nat → Int32, g = upd ff_ (pl : Int32).toNatClampNeg sm := ⟨_, rfl⟩
              rw [← ef_28] at hP hD
              refine lv_aload_n hx hb dX1_keep_173 rfl (lv_at hl 1 rfl) ?_
              refine va_get (D := (dC, dI)) (ci := 1) (v := .ref w7) (C := RX1) (T := TX1) (N := 20) hx hb hts in_X1 hown hK hP 0 rfl rfl 12 (by decide) (hts (.fieldLink RX1 39 "TextMender$Choices" "lengthOf" "[I") (List.mem_of_getElem? (i := 9) rfl)) (fun _ h9 => h9) rfl dX1_keep_174 ?_
              refine lv_iload hx hb dX1_keep_177 (lv_at hl 0 rfl) ?_
              refine lv_iload hx hb dX1_keep_179 (lv_at hl 5 rfl) ?_
              refine va_iast hx hb hK hP hD hS 4 0 rfl rfl (v_in (by omega)) dX1_keep_181 (fun H locs hP hD hS => ?_)
              have hP : va_P (dC, dI) vwCl [(oW, .inr (1, [.ref oC, .ref oK, .ref nw, .ref w1, .ref w2, .ref w3, .ref o7, .ref o8, .ref o9, .ref w4, .ref w5, .ref w6, .ref w7, .int x_3, .int tl, .int fsh, .int wi, .int ri, .int fm, .int lm])), (w4, .inl (cI, 200, .inl f_25)), (w5, .inl (cI, 200, .inl f_27)), (w6, .inl (cI, 200, .inl f_28)), (w7, .inl (cI, 200, .inl (upd fg_ (pl : Int32).toNatClampNeg ls_)))] H := hP
              have hD : va_D A [(oW, .inr (1, [.ref oC, .ref oK, .ref nw, .ref w1, .ref w2, .ref w3, .ref o7, .ref o8, .ref o9, .ref w4, .ref w5, .ref w6, .ref w7, .int x_3, .int tl, .int fsh, .int wi, .int ri, .int fm, .int lm])), (w4, .inl (cI, 200, .inl f_25)), (w5, .inl (cI, 200, .inl f_27)), (w6, .inl (cI, 200, .inl f_28)), (w7, .inl (cI, 200, .inl (upd fg_ (pl : Int32).toNatClampNeg ls_)))] := hD
              obtain ⟨f_29, ef_29⟩ : ∃ g : Nat → Int32, g = upd fg_ (pl : Int32).toNatClampNeg ls_ := ⟨_, rfl⟩
              rw [← ef_29] at hP hD
              have hP9 := hP.sub (ws' := [(oW, .inr (1, [.ref oC, .ref oK, .ref nw, .ref w1, .ref w2, .ref w3, .ref o7, .ref o8, .ref o9, .ref w4, .ref w5, .ref w6, .ref w7, .int x_3, .int tl, .int fsh, .int wi, .int ri, .int fm, .int lm])), (w4, .inl (cI, 200, .inl f_25)), (w5, .inl (cI, 200, .inl f_27)), (w6, .inl (cI, 200, .inl f_28)), (w7, .inl (cI, 200, .inl f_29))]) [0, 1, 2, 3, 4] rfl
              have hD9 := hD.sub (ws' := [(oW, .inr (1, [.ref oC, .ref oK, .ref nw, .ref w1, .ref w2, .ref w3, .ref o7, .ref o8, .ref o9, .ref w4, .ref w5, .ref w6, .ref w7, .int x_3, .int tl, .int fsh, .int wi, .int ri, .int fm, .int lm])), (w4, .inl (cI, 200, .inl f_25)), (w5, .inl (cI, 200, .inl f_27)), (w6, .inl (cI, 200, .inl f_28)), (w7, .inl (cI, 200, .inl f_29))]) [0, 1, 2, 3, 4] (by decide) rfl
              rw [hQQ]
              exact W.vret hx hb hr (fun t ht hW => ⟨⟨(), rfl, trivial, ⟨x_3, f_25, f_27, f_28, f_29, by rw [ht]; exact hP9, hD9, by omega, by show (ke.toInt < 200 ∧ x_3.toInt = ke.toInt + 1) ∨ (ke.toInt = 200 ∧ x_3.toInt = 200); omega, kp_end hkp hsr (by omega) (by omega) (by have c8 := v_clamp (x := x_3) (by omega); omega) ef_25 ef_27 ef_28 ef_29 (by show _ = (if a.toInt = -1 then b.toInt else a.toInt); rw [if_pos (by omega)]) (by show _ = (if a.toInt = -1 then -1 else b.toInt); rw [if_pos (by omega)]; rfl) rfl rfl hbg (Or.inr ⟨x_16, x_17, by omega, ex_17, by show _ ≤ sm.toInt; omega⟩)⟩⟩, hS.F ht⟩) hS.2.2 dX1_keep_182
          · have tc_18 : sm.toInt < x_17.toInt := v_nle c_18
            have rw18_0 := v_rng x_17
            have rw18_1 := v_rng sm
            refine lv_aload_n hx hb dX1_keep_61 rfl (lv_at hl 1 rfl) ?_
            refine va_get (D := (dC, dI)) (ci := 1) (v := .ref w4) (C := RX1) (T := TX1) (N := 20) hx hb hts in_X1 hown hK hP 0 rfl rfl 9 (by decide) (hts (.fieldLink RX1 30 "TextMender$Choices" "firstByte" "[I") (List.mem_of_getElem? (i := 7) rfl)) (fun _ h9 => h9) rfl dX1_keep_62 ?_
            refine lv_iload hx hb dX1_keep_65 (lv_at hl 0 rfl) ?_
            refine lv_aload_n hx hb dX1_keep_67 rfl (lv_at hl 1 rfl) ?_
            refine va_get (D := (dC, dI)) (ci := 1) (v := .ref w4) (C := RX1) (T := TX1) (N := 20) hx hb hts in_X1 hown hK hP 0 rfl rfl 9 (by decide) (hts (.fieldLink RX1 30 "TextMender$Choices" "firstByte" "[I") (List.mem_of_getElem? (i := 7) rfl)) (fun _ h9 => h9) rfl dX1_keep_68 ?_
            refine lv_iload hx hb dX1_keep_71 (lv_at hl 0 rfl) ?_
            refine lv_iconst (v := 1) hx hb dX1_keep_73 (by decide) ?_
            refine lv_isub hx hb dX1_keep_74 ?_
            refine lv_topi (fun x_30 ex_30 => ?_)
            have tx_30 : x_30.toInt = pl.toInt - 1 := v_sub ex_30 (by show -2147483648 ≤ pl.toInt - 1; omega) (by show pl.toInt - 1 < 2147483648; omega)
            refine va_iald hx hb hK hP 1 0 rfl rfl (v_in (by omega)) dX1_keep_75 ?_
            refine lv_topi (fun x_31 ex_31 => ?_)
            refine va_iast hx hb hK hP hD hS 1 0 rfl rfl (v_in (by omega)) dX1_keep_76 (fun H locs hP hD hS => ?_)
            have hP : va_P (dC, dI) vwCl [(oW, .inr (1, [.ref oC, .ref oK, .ref nw, .ref w1, .ref w2, .ref w3, .ref o7, .ref o8, .ref o9, .ref w4, .ref w5, .ref w6, .ref w7, .int x_3, .int tl, .int fsh, .int wi, .int ri, .int fm, .int lm])), (w4, .inl (cI, 200, .inl (upd fd_ (pl : Int32).toNatClampNeg x_31))), (w5, .inl (cI, 200, .inl fe_)), (w6, .inl (cI, 200, .inl ff_)), (w7, .inl (cI, 200, .inl fg_))] H := hP
            have hD : va_D A [(oW, .inr (1, [.ref oC, .ref oK, .ref nw, .ref w1, .ref w2, .ref w3, .ref o7, .ref o8, .ref o9, .ref w4, .ref w5, .ref w6, .ref w7, .int x_3, .int tl, .int fsh, .int wi, .int ri, .int fm, .int lm])), (w4, .inl (cI, 200, .inl (upd fd_ (pl : Int32).toNatClampNeg x_31))), (w5, .inl (cI, 200, .inl fe_)), (w6, .inl (cI, 200, .inl ff_)), (w7, .inl (cI, 200, .inl fg_))] := hD
            obtain ⟨f_32, ef_32⟩ : ∃ g : Nat → Int32, g = upd fd_ (pl : Int32).toNatClampNeg x_31 := ⟨_, rfl⟩
            rw [← ef_32] at hP hD
            refine lv_aload_n hx hb dX1_keep_77 rfl (lv_at hl 1 rfl) ?_
            refine va_get (D := (dC, dI)) (ci := 1) (v := .ref w5) (C := RX1) (T := TX1) (N := 20) hx hb hts in_X1 hown hK hP 0 rfl rfl 10 (by decide) (hts (.fieldLink RX1 33 "TextMender$Choices" "secondByte" "[I") (List.mem_of_getElem? (i := 8) rfl)) (fun _ h9 => h9) rfl dX1_keep_78 ?_
            refine lv_iload hx hb dX1_keep_81 (lv_at hl 0 rfl) ?_
            refine lv_aload_n hx hb dX1_keep_83 rfl (lv_at hl 1 rfl) ?_
            refine va_get (D := (dC, dI)) (ci := 1) (v := .ref w5) (C := RX1) (T := TX1) (N := 20) hx hb hts in_X1 hown hK hP 0 rfl rfl 10 (by decide) (hts (.fieldLink RX1 33 "TextMender$Choices" "secondByte" "[I") (List.mem_of_getElem? (i := 8) rfl)) (fun _ h9 => h9) rfl dX1_keep_84 ?_
            refine lv_iload hx hb dX1_keep_87 (lv_at hl 0 rfl) ?_
            refine lv_iconst (v := 1) hx hb dX1_keep_89 (by decide) ?_
            refine lv_isub hx hb dX1_keep_90 ?_
            refine lv_topi (fun x_33 ex_33 => ?_)
            have tx_33 : x_33.toInt = pl.toInt - 1 := v_sub ex_33 (by show -2147483648 ≤ pl.toInt - 1; omega) (by show pl.toInt - 1 < 2147483648; omega)
            refine va_iald hx hb hK hP 2 0 rfl rfl (v_in (by omega)) dX1_keep_91 ?_
            refine lv_topi (fun x_34 ex_34 => ?_)
            refine va_iast hx hb hK hP hD hS 2 0 rfl rfl (v_in (by omega)) dX1_keep_92 (fun H locs hP hD hS => ?_)
            have hP : va_P (dC, dI) vwCl [(oW, .inr (1, [.ref oC, .ref oK, .ref nw, .ref w1, .ref w2, .ref w3, .ref o7, .ref o8, .ref o9, .ref w4, .ref w5, .ref w6, .ref w7, .int x_3, .int tl, .int fsh, .int wi, .int ri, .int fm, .int lm])), (w4, .inl (cI, 200, .inl f_32)), (w5, .inl (cI, 200, .inl (upd fe_ (pl : Int32).toNatClampNeg x_34))), (w6, .inl (cI, 200, .inl ff_)), (w7, .inl (cI, 200, .inl fg_))] H := hP
            have hD : va_D A [(oW, .inr (1, [.ref oC, .ref oK, .ref nw, .ref w1, .ref w2, .ref w3, .ref o7, .ref o8, .ref o9, .ref w4, .ref w5, .ref w6, .ref w7, .int x_3, .int tl, .int fsh, .int wi, .int ri, .int fm, .int lm])), (w4, .inl (cI, 200, .inl f_32)), (w5, .inl (cI, 200, .inl (upd fe_ (pl : Int32).toNatClampNeg x_34))), (w6, .inl (cI, 200, .inl ff_)), (w7, .inl (cI, 200, .inl fg_))] := hD
            obtain ⟨f_35, ef_35⟩ : ∃ g : Nat → Int32, g = upd fe_ (pl : Int32).toNatClampNeg x_34 := ⟨_, rfl⟩
            rw [← ef_35] at hP hD
            refine lv_aload_n hx hb dX1_keep_93 rfl (lv_at hl 1 rfl) ?_
            refine va_get (D := (dC, dI)) (ci := 1) (v := .ref w6) (C := RX1) (T := TX1) (N := 20) hx hb hts in_X1 hown hK hP 0 rfl rfl 11 (by decide) (hts (.fieldLink RX1 36 "TextMender$Choices" "costOf" "[I") (List.mem_of_getElem? (i := 2) rfl)) (fun _ h9 => h9) rfl dX1_keep_94 ?_
            refine lv_iload hx hb dX1_keep_97 (lv_at hl 0 rfl) ?_
            refine lv_aload_n hx hb dX1_keep_99 rfl (lv_at hl 1 rfl) ?_
            refine va_get (D := (dC, dI)) (ci := 1) (v := .ref w6) (C := RX1) (T := TX1) (N := 20) hx hb hts in_X1 hown hK hP 0 rfl rfl 11 (by decide) (hts (.fieldLink RX1 36 "TextMender$Choices" "costOf" "[I") (List.mem_of_getElem? (i := 2) rfl)) (fun _ h9 => h9) rfl dX1_keep_100 ?_
            refine lv_iload hx hb dX1_keep_103 (lv_at hl 0 rfl) ?_
            refine lv_iconst (v := 1) hx hb dX1_keep_105 (by decide) ?_
            refine lv_isub hx hb dX1_keep_106 ?_
            refine lv_topi (fun x_36 ex_36 => ?_)
            have tx_36 : x_36.toInt = pl.toInt - 1 := v_sub ex_36 (by show -2147483648 ≤ pl.toInt - 1; omega) (by show pl.toInt - 1 < 2147483648; omega)
            refine va_iald hx hb hK hP 3 0 rfl rfl (v_in (by omega)) dX1_keep_107 ?_
            refine lv_topi (fun x_37 ex_37 => ?_)
            refine va_iast hx hb hK hP hD hS 3 0 rfl rfl (v_in (by omega)) dX1_keep_108 (fun H locs hP hD hS => ?_)
            have hP : va_P (dC, dI) vwCl [(oW, .inr (1, [.ref oC, .ref oK, .ref nw, .ref w1, .ref w2, .ref w3, .ref o7, .ref o8, .ref o9, .ref w4, .ref w5, .ref w6, .ref w7, .int x_3, .int tl, .int fsh, .int wi, .int ri, .int fm, .int lm])), (w4, .inl (cI, 200, .inl f_32)), (w5, .inl (cI, 200, .inl f_35)), (w6, .inl (cI, 200, .inl (upd ff_ (pl : Int32).toNatClampNeg x_37))), (w7, .inl (cI, 200, .inl fg_))] H := hP
            have hD : va_D A [(oW, .inr (1, [.ref oC, .ref oK, .ref nw, .ref w1, .ref w2, .ref w3, .ref o7, .ref o8, .ref o9, .ref w4, .ref w5, .ref w6, .ref w7, .int x_3, .int tl, .int fsh, .int wi, .int ri, .int fm, .int lm])), (w4, .inl (cI, 200, .inl f_32)), (w5, .inl (cI, 200, .inl f_35)), (w6, .inl (cI, 200, .inl (upd ff_ (pl : Int32).toNatClampNeg x_37))), (w7, .inl (cI, 200, .inl fg_))] := hD
            obtain ⟨f_38, ef_38⟩ : ∃ g : Nat → Int32, g = upd ff_ (pl : Int32).toNatClampNeg x_37 := ⟨_, rfl⟩
            rw [← ef_38] at hP hD
            refine lv_aload_n hx hb dX1_keep_109 rfl (lv_at hl 1 rfl) ?_
            refine va_get (D := (dC, dI)) (ci := 1) (v := .ref w7) (C := RX1) (T := TX1) (N := 20) hx hb hts in_X1 hown hK hP 0 rfl rfl 12 (by decide) (hts (.fieldLink RX1 39 "TextMender$Choices" "lengthOf" "[I") (List.mem_of_getElem? (i := 9) rfl)) (fun _ h9 => h9) rfl dX1_keep_110 ?_
            refine lv_iload hx hb dX1_keep_113 (lv_at hl 0 rfl) ?_
            refine lv_aload_n hx hb dX1_keep_115 rfl (lv_at hl 1 rfl) ?_
            refine va_get (D := (dC, dI)) (ci := 1) (v := .ref w7) (C := RX1) (T := TX1) (N := 20) hx hb hts in_X1 hown hK hP 0 rfl rfl 12 (by decide) (hts (.fieldLink RX1 39 "TextMender$Choices" "lengthOf" "[I") (List.mem_of_getElem? (i := 9) rfl)) (fun _ h9 => h9) rfl dX1_keep_116 ?_
            refine lv_iload hx hb dX1_keep_119 (lv_at hl 0 rfl) ?_
            refine lv_iconst (v := 1) hx hb dX1_keep_121 (by decide) ?_
            refine lv_isub hx hb dX1_keep_122 ?_
            refine lv_topi (fun x_39 ex_39 => ?_)
            have tx_39 : x_39.toInt = pl.toInt - 1 := v_sub ex_39 (by show -2147483648 ≤ pl.toInt - 1; omega) (by show pl.toInt - 1 < 2147483648; omega)
            refine va_iald hx hb hK hP 4 0 rfl rfl (v_in (by omega)) dX1_keep_123 ?_
            refine lv_topi (fun x_40 ex_40 => ?_)
            refine va_iast hx hb hK hP hD hS 4 0 rfl rfl (v_in (by omega)) dX1_keep_124 (fun H locs hP hD hS => ?_)
            have hP : va_P (dC, dI) vwCl [(oW, .inr (1, [.ref oC, .ref oK, .ref nw, .ref w1, .ref w2, .ref w3, .ref o7, .ref o8, .ref o9, .ref w4, .ref w5, .ref w6, .ref w7, .int x_3, .int tl, .int fsh, .int wi, .int ri, .int fm, .int lm])), (w4, .inl (cI, 200, .inl f_32)), (w5, .inl (cI, 200, .inl f_35)), (w6, .inl (cI, 200, .inl f_38)), (w7, .inl (cI, 200, .inl (upd fg_ (pl : Int32).toNatClampNeg x_40)))] H := hP
            have hD : va_D A [(oW, .inr (1, [.ref oC, .ref oK, .ref nw, .ref w1, .ref w2, .ref w3, .ref o7, .ref o8, .ref o9, .ref w4, .ref w5, .ref w6, .ref w7, .int x_3, .int tl, .int fsh, .int wi, .int ri, .int fm, .int lm])), (w4, .inl (cI, 200, .inl f_32)), (w5, .inl (cI, 200, .inl f_35)), (w6, .inl (cI, 200, .inl f_38)), (w7, .inl (cI, 200, .inl (upd fg_ (pl : Int32).toNatClampNeg x_40)))] := hD
            obtain ⟨f_41, ef_41⟩ : ∃ g : Nat → Int32, g = upd fg_ (pl : Int32).toNatClampNeg x_40 := ⟨_, rfl⟩
            rw [← ef_41] at hP hD
            obtain ⟨x_42, ex_42⟩ : ∃ y : Int32, y = pl + (-1) := ⟨_, rfl⟩
            have tx_42 : x_42.toInt = pl.toInt + (-1) := v_add ex_42 (by show -2147483648 ≤ pl.toInt + (-1); omega) (by show pl.toInt + (-1) < 2147483648; omega)
            refine lv_iinc (v := x_42) (lv' := [(5, .int x_42), (0, .ref oW), (1, .int a), (2, .int b), (3, .int sm), (4, .int ls_)]) hx hb dX1_keep_125 hl (k := 0) rfl (by rw [ex_42]; rfl) (by decide) rfl (fun ls hl => ?_)
            refine lv_goto (tgt := 43) hx hb dX1_keep_128 (by decide) ?_
            exact ih_43 x_42 f_32 f_35 f_38 f_41 _ _ _ (by have hm9 := hm_43; show ((x_42.toInt : Int)).toNat < k_43; omega) (by show 0 ≤ x_42.toInt ∧ x_42.toInt ≤ 199; omega) (by show x_42.toInt ≤ ke.toInt; omega) (KPL_s4 hkp (by omega) (a0 := x_30) (by omega) (a1 := x_33) (by omega) (a2 := x_36) (by omega) (a3 := x_39) (by omega) ex_31 ex_34 ex_37 ex_40 ef_32 ef_35 ef_38 ef_41 (by omega)) (kp_big hkp hbg (by omega) (by omega) ex_17 (by omega) (by omega)) hP hD hS (lv_sub hl [0, 1, 2, 3, 4, 5] rfl)
    exact LOOP_43 _ x_2 fW4 fW5 fW6 fW7 _ _ _ (Nat.lt_succ_self _) (by show 0 ≤ x_2.toInt ∧ x_2.toInt ≤ 199; omega) (by show x_2.toInt ≤ ke.toInt; omega) (KPL_0 rfl) (kp_b0 (j := 0) (q := fW6 0) (by omega) rfl (by omega)) hP hD hS (lv_sub hl [0, 1, 2, 3, 4, 5] rfl)
  · have tc_1 : ke.toInt = 200 := v_eq c_1
    refine lv_iload_n hx hb dX1_keep_10 rfl (lv_at hl 3 rfl) ?_
    refine lv_aload_n hx hb dX1_keep_11 rfl (lv_at hl 0 rfl) ?_
    refine va_get (D := (dC, dI)) (ci := 1) (v := .ref w6) (C := RX1) (T := TX1) (N := 20) hx hb hts in_X1 hown hK hP 0 rfl rfl 11 (by decide) (hts (.fieldLink RX1 36 "TextMender$Choices" "costOf" "[I") (List.mem_of_getElem? (i := 2) rfl)) (fun _ h9 => h9) rfl dX1_keep_12 ?_
    refine lv_sipush (v := 199) hx hb dX1_keep_15 (by decide) ?_
    refine va_iald hx hb hK hP 3 0 rfl rfl (by unfold vp_in; decide) dX1_keep_18 ?_
    refine lv_topi (fun x_43 ex_43 => ?_)
    refine lv_icmp_lt (tgt := 23) hx hb dX1_keep_19 (by decide) (fun c_44 => ?_) (fun c_44 => ?_)
    · have tc_44 : sm.toInt < x_43.toInt := v_lt c_44
      have rw44_0 := v_rng sm
      have rw44_1 := v_rng x_43
      refine lv_aload_n hx hb dX1_keep_23 rfl (lv_at hl 0 rfl) ?_
      refine va_get (D := (dC, dI)) (ci := 1) (v := .int ke) (C := RX1) (T := TX1) (N := 20) hx hb hts in_X1 hown hK hP 0 rfl rfl 13 (by decide) (hts (.fieldLink RX1 65 "TextMender$Choices" "kept" "I") (List.mem_of_getElem? (i := 1) rfl)) (fun _ h9 => h9) rfl dX1_keep_24 ?_
      refine lv_sipush (v := 199) hx hb dX1_keep_27 (by decide) ?_
      refine va_mmin hx hb (by rw [hml]; exact hl.1.symm) hown (hts (.methodLink RX1 135 Lib.Math.min.name) (List.mem_of_getElem? (i := 3) rfl)) (hts (.static Lib.Math.min.name) (List.mem_of_getElem? (i := 4) rfl)) (hts (.initialized "java/lang/Math") (List.mem_of_getElem? (i := 5) rfl)) (hts (.code Lib.Math.min.name Lib.Math.min.code 2 (some .int)) (List.mem_of_getElem? (i := 6) rfl)) (Nat.le_of_ble_eq_true rfl) (Nat.le_of_ble_eq_true rfl) (Nat.zero_le _) (Nat.zero_le _) dX1_keep_30 ?_
      refine lv_topi (fun x_45 ex_45 => ?_)
      have tx_45 : x_45.toInt ≤ ke.toInt ∧ x_45.toInt ≤ 199 ∧ (x_45.toInt = ke.toInt ∨ x_45.toInt = 199) := v_min ex_45
      refine lv_istore (lv' := [(5, .int x_45), (0, .ref oW), (1, .int a), (2, .int b), (3, .int sm), (4, .int ls_)]) hx hb dX1_keep_33 hl (by decide) rfl (fun ls hl => ?_)
      refine lv_aload_n hx hb dX1_keep_35 rfl (lv_at hl 1 rfl) ?_
      refine lv_iload hx hb dX1_keep_36 (lv_at hl 0 rfl) ?_
      refine lv_iconst (v := 1) hx hb dX1_keep_38 (by decide) ?_
      refine lv_iadd hx hb dX1_keep_39 ?_
      refine lv_topi (fun x_46 ex_46 => ?_)
      have tx_46 : x_46.toInt = x_45.toInt + 1 := v_add ex_46 (by show -2147483648 ≤ x_45.toInt + 1; omega) (by show x_45.toInt + 1 < 2147483648; omega)
      refine va_put (D := (dC, dI)) (ci := 1) (v := .int x_46) (ty := .int) (C := RX1) (T := TX1) (N := 20) hx hb hts in_X1 tyX1 tyX1_ok nmX1 hown hK hP hD hS 0 rfl rfl 13 (by decide) (hts (.fieldLink RX1 65 "TextMender$Choices" "kept" "I") (List.mem_of_getElem? (i := 1) rfl)) (fun _ h9 => h9) rfl (by decide +kernel) rfl rfl (Nat.le_of_ble_eq_true rfl) dX1_keep_40 (fun H locs hP hD hS => ?_)
      have hP : va_P (dC, dI) vwCl [(oW, .inr (1, [.ref oC, .ref oK, .ref nw, .ref w1, .ref w2, .ref w3, .ref o7, .ref o8, .ref o9, .ref w4, .ref w5, .ref w6, .ref w7, .int x_46, .int tl, .int fsh, .int wi, .int ri, .int fm, .int lm])), (w4, .inl (cI, 200, .inl fW4)), (w5, .inl (cI, 200, .inl fW5)), (w6, .inl (cI, 200, .inl fW6)), (w7, .inl (cI, 200, .inl fW7))] H := hP
      have hD : va_D A [(oW, .inr (1, [.ref oC, .ref oK, .ref nw, .ref w1, .ref w2, .ref w3, .ref o7, .ref o8, .ref o9, .ref w4, .ref w5, .ref w6, .ref w7, .int x_46, .int tl, .int fsh, .int wi, .int ri, .int fm, .int lm])), (w4, .inl (cI, 200, .inl fW4)), (w5, .inl (cI, 200, .inl fW5)), (w6, .inl (cI, 200, .inl fW6)), (w7, .inl (cI, 200, .inl fW7))] := hD
      have LOOP_43 : ∀ (k_43 : Nat) (pl : Int32) (fd_ : Nat → Int32) (fe_ : Nat → Int32) (ff_ : Nat → Int32) (fg_ : Nat → Int32) (H : Heap) (locs : List Loc) (ls : Array Slot), (pl.toInt : Int).toNat < k_43 → (0 ≤ pl.toInt ∧ pl.toInt ≤ 199) → (pl.toInt ≤ ke.toInt) → (KPL fW4 fW5 fW6 fW7 fd_ fe_ ff_ fg_ pl.toInt (x_45.toInt)) → (∀ i : Nat, pl.toInt ≤ i → i < ke.toNatClampNeg → sm.toInt < CA fW4 fW5 fW6 fW7 i 2) → va_P (dC, dI) vwCl [(oW, .inr (1, [.ref oC, .ref oK, .ref nw, .ref w1, .ref w2, .ref w3, .ref o7, .ref o8, .ref o9, .ref w4, .ref w5, .ref w6, .ref w7, .int x_46, .int tl, .int fsh, .int wi, .int ri, .int fm, .int lm])), (w4, .inl (cI, 200, .inl fd_)), (w5, .inl (cI, 200, .inl fe_)), (w6, .inl (cI, 200, .inl ff_)), (w7, .inl (cI, 200, .inl fg_))] H → va_D A [(oW, .inr (1, [.ref oC, .ref oK, .ref nw, .ref w1, .ref w2, .ref w3, .ref o7, .ref o8, .ref o9, .ref w4, .ref w5, .ref w6, .ref w7, .int x_46, .int tl, .int fsh, .int wi, .int ri, .int fm, .int lm])), (w4, .inl (cI, 200, .inl fd_)), (w5, .inl (cI, 200, .inl fe_)), (w6, .inl (cI, 200, .inl ff_)), (w7, .inl (cI, 200, .inl fg_))] → va_S A s.heap H locs → lv_has ls 6 [(5, .int pl), (0, .ref oW), (1, .int a), (2, .int b), (3, .int sm), (4, .int ls_)] → W p l e (headSpec wsX1_keep ({ frames := 1, cells := 0, slots := 0, locals := 21 } : Room)).room s m ([.ref oW, .int a, .int b, .int sm, .int ls_] : List Value).toArray below meth c H locs 0 0 (MQ below QQ ([.ref oW, .int a, .int b, .int sm, .int ls_] : List Value).toArray s 0 0 A) (F0 m 43 ls []) := by
        intro k_43
        induction k_43 with
        | zero =>
          intro pl fd_ fe_ ff_ fg_ H locs ls hm_43 g_pl hpk hkp hbg hP hD hS hl
          exact absurd hm_43 (Nat.not_lt_zero _)
        | succ k_43 ih_43 =>
          intro pl fd_ fe_ ff_ fg_ H locs ls hm_43 g_pl hpk hkp hbg hP hD hS hl
          refine lv_iload hx hb dX1_keep_43 (lv_at hl 0 rfl) ?_
          refine lv_if_le (tgt := 131) hx hb dX1_keep_45 (by decide) (fun c_47 => ?_) (fun c_47 => ?_)
          · have tc_47 : pl.toInt ≤ 0 := v_le c_47
            refine lv_aload_n hx hb dX1_keep_131 rfl (lv_at hl 1 rfl) ?_
            refine va_get (D := (dC, dI)) (ci := 1) (v := .ref w4) (C := RX1) (T := TX1) (N := 20) hx hb hts in_X1 hown hK hP 0 rfl rfl 9 (by decide) (hts (.fieldLink RX1 30 "TextMender$Choices" "firstByte" "[I") (List.mem_of_getElem? (i := 7) rfl)) (fun _ h9 => h9) rfl dX1_keep_132 ?_
            refine lv_iload hx hb dX1_keep_135 (lv_at hl 0 rfl) ?_
            refine lv_iload_n hx hb dX1_keep_137 rfl (lv_at hl 2 rfl) ?_
            refine lv_iconst (v := (-1)) hx hb dX1_keep_138 (by decide) ?_
            refine lv_icmp_ne (tgt := 146) hx hb dX1_keep_139 (by decide) (fun c_48 => ?_) (fun c_48 => ?_)
            · have tc_48 : ¬ a.toInt = (-1) := v_ne c_48
              refine lv_iload_n hx hb dX1_keep_146 rfl (lv_at hl 2 rfl) ?_
              refine va_iast hx hb hK hP hD hS 1 0 rfl rfl (v_in (by omega)) dX1_keep_147 (fun H locs hP hD hS => ?_)
              have hP : va_P (dC, dI) vwCl [(oW, .inr (1, [.ref oC, .ref oK, .ref nw, .ref w1, .ref w2, .ref w3, .ref o7, .ref o8, .ref o9, .ref w4, .ref w5, .ref w6, .ref w7, .int x_46, .int tl, .int fsh, .int wi, .int ri, .int fm, .int lm])), (w4, .inl (cI, 200, .inl (upd fd_ (pl : Int32).toNatClampNeg a))), (w5, .inl (cI, 200, .inl fe_)), (w6, .inl (cI, 200, .inl ff_)), (w7, .inl (cI, 200, .inl fg_))] H := hP
              have hD : va_D A [(oW, .inr (1, [.ref oC, .ref oK, .ref nw, .ref w1, .ref w2, .ref w3, .ref o7, .ref o8, .ref o9, .ref w4, .ref w5, .ref w6, .ref w7, .int x_46, .int tl, .int fsh, .int wi, .int ri, .int fm, .int lm])), (w4, .inl (cI, 200, .inl (upd fd_ (pl : Int32).toNatClampNeg a))), (w5, .inl (cI, 200, .inl fe_)), (w6, .inl (cI, 200, .inl ff_)), (w7, .inl (cI, 200, .inl fg_))] := hD
              obtain ⟨f_49, ef_49⟩ : ∃ g : Nat → Int32, g = upd fd_ (pl : Int32).toNatClampNeg a := ⟨_, rfl⟩
              rw [← ef_49] at hP hD
              refine lv_aload_n hx hb dX1_keep_148 rfl (lv_at hl 1 rfl) ?_
              refine va_get (D := (dC, dI)) (ci := 1) (v := .ref w5) (C := RX1) (T := TX1) (N := 20) hx hb hts in_X1 hown hK hP 0 rfl rfl 10 (by decide) (hts (.fieldLink RX1 33 "TextMender$Choices" "secondByte" "[I") (List.mem_of_getElem? (i := 8) rfl)) (fun _ h9 => h9) rfl dX1_keep_149 ?_
              refine lv_iload hx hb dX1_keep_152 (lv_at hl 0 rfl) ?_
              refine lv_iload_n hx hb dX1_keep_154 rfl (lv_at hl 2 rfl) ?_
              refine lv_iconst (v := (-1)) hx hb dX1_keep_155 (by decide) ?_
              refine lv_icmp_ne (tgt := 163) hx hb dX1_keep_156 (by decide) (fun c_50 => ?_) (fun c_50 => by exfalso; have tc_50 : a.toInt = (-1) := v_eq c_50; omega)
              have tc_50 : ¬ a.toInt = (-1) := v_ne c_50
              refine lv_iload_n hx hb dX1_keep_163 rfl (lv_at hl 3 rfl) ?_
              refine va_iast hx hb hK hP hD hS 2 0 rfl rfl (v_in (by omega)) dX1_keep_164 (fun H locs hP hD hS => ?_)
              have hP : va_P (dC, dI) vwCl [(oW, .inr (1, [.ref oC, .ref oK, .ref nw, .ref w1, .ref w2, .ref w3, .ref o7, .ref o8, .ref o9, .ref w4, .ref w5, .ref w6, .ref w7, .int x_46, .int tl, .int fsh, .int wi, .int ri, .int fm, .int lm])), (w4, .inl (cI, 200, .inl f_49)), (w5, .inl (cI, 200, .inl (upd fe_ (pl : Int32).toNatClampNeg b))), (w6, .inl (cI, 200, .inl ff_)), (w7, .inl (cI, 200, .inl fg_))] H := hP
              have hD : va_D A [(oW, .inr (1, [.ref oC, .ref oK, .ref nw, .ref w1, .ref w2, .ref w3, .ref o7, .ref o8, .ref o9, .ref w4, .ref w5, .ref w6, .ref w7, .int x_46, .int tl, .int fsh, .int wi, .int ri, .int fm, .int lm])), (w4, .inl (cI, 200, .inl f_49)), (w5, .inl (cI, 200, .inl (upd fe_ (pl : Int32).toNatClampNeg b))), (w6, .inl (cI, 200, .inl ff_)), (w7, .inl (cI, 200, .inl fg_))] := hD
              obtain ⟨f_51, ef_51⟩ : ∃ g : Nat → Int32, g = upd fe_ (pl : Int32).toNatClampNeg b := ⟨_, rfl⟩
              rw [← ef_51] at hP hD
              refine lv_aload_n hx hb dX1_keep_165 rfl (lv_at hl 1 rfl) ?_
              refine va_get (D := (dC, dI)) (ci := 1) (v := .ref w6) (C := RX1) (T := TX1) (N := 20) hx hb hts in_X1 hown hK hP 0 rfl rfl 11 (by decide) (hts (.fieldLink RX1 36 "TextMender$Choices" "costOf" "[I") (List.mem_of_getElem? (i := 2) rfl)) (fun _ h9 => h9) rfl dX1_keep_166 ?_
              refine lv_iload hx hb dX1_keep_169 (lv_at hl 0 rfl) ?_
              refine lv_iload_n hx hb dX1_keep_171 rfl (lv_at hl 4 rfl) ?_
              refine va_iast hx hb hK hP hD hS 3 0 rfl rfl (v_in (by omega)) dX1_keep_172 (fun H locs hP hD hS => ?_)
              have hP : va_P (dC, dI) vwCl [(oW, .inr (1, [.ref oC, .ref oK, .ref nw, .ref w1, .ref w2, .ref w3, .ref o7, .ref o8, .ref o9, .ref w4, .ref w5, .ref w6, .ref w7, .int x_46, .int tl, .int fsh, .int wi, .int ri, .int fm, .int lm])), (w4, .inl (cI, 200, .inl f_49)), (w5, .inl (cI, 200, .inl f_51)), (w6, .inl (cI, 200, .inl (upd ff_ (pl : Int32).toNatClampNeg sm))), (w7, .inl (cI, 200, .inl fg_))] H := hP
              have hD : va_D A [(oW, .inr (1, [.ref oC, .ref oK, .ref nw, .ref w1, .ref w2, .ref w3, .ref o7, .ref o8, .ref o9, .ref w4, .ref w5, .ref w6, .ref w7, .int x_46, .int tl, .int fsh, .int wi, .int ri, .int fm, .int lm])), (w4, .inl (cI, 200, .inl f_49)), (w5, .inl (cI, 200, .inl f_51)), (w6, .inl (cI, 200, .inl (upd ff_ (pl : Int32).toNatClampNeg sm))), (w7, .inl (cI, 200, .inl fg_))] := hD
              obtain ⟨f_52, ef_52⟩ : ∃ g : Nat → Int32, g = upd ff_ (pl : Int32).toNatClampNeg sm := ⟨_, rfl⟩
              rw [← ef_52] at hP hD
              refine lv_aload_n hx hb dX1_keep_173 rfl (lv_at hl 1 rfl) ?_
              refine va_get (D := (dC, dI)) (ci := 1) (v := .ref w7) (C := RX1) (T := TX1) (N := 20) hx hb hts in_X1 hown hK hP 0 rfl rfl 12 (by decide) (hts (.fieldLink RX1 39 "TextMender$Choices" "lengthOf" "[I") (List.mem_of_getElem? (i := 9) rfl)) (fun _ h9 => h9) rfl dX1_keep_174 ?_
              refine lv_iload hx hb dX1_keep_177 (lv_at hl 0 rfl) ?_
              refine lv_iload hx hb dX1_keep_179 (lv_at hl 5 rfl) ?_
              refine va_iast hx hb hK hP hD hS 4 0 rfl rfl (v_in (by omega)) dX1_keep_181 (fun H locs hP hD hS => ?_)
              have hP : va_P (dC, dI) vwCl [(oW, .inr (1, [.ref oC, .ref oK, .ref nw, .ref w1, .ref w2, .ref w3, .ref o7, .ref o8, .ref o9, .ref w4, .ref w5, .ref w6, .ref w7, .int x_46, .int tl, .int fsh, .int wi, .int ri, .int fm, .int lm])), (w4, .inl (cI, 200, .inl f_49)), (w5, .inl (cI, 200, .inl f_51)), (w6, .inl (cI, 200, .inl f_52)), (w7, .inl (cI, 200, .inl (upd fg_ (pl : Int32).toNatClampNeg ls_)))] H := hP
              have hD : va_D A [(oW, .inr (1, [.ref oC, .ref oK, .ref nw, .ref w1, .ref w2, .ref w3, .ref o7, .ref o8, .ref o9, .ref w4, .ref w5, .ref w6, .ref w7, .int x_46, .int tl, .int fsh, .int wi, .int ri, .int fm, .int lm])), (w4, .inl (cI, 200, .inl f_49)), (w5, .inl (cI, 200, .inl f_51)), (w6, .inl (cI, 200, .inl f_52)), (w7, .inl (cI, 200, .inl (upd fg_ (pl : Int32).toNatClampNeg ls_)))] := hD
              obtain ⟨f_53, ef_53⟩ : ∃ g : Nat → Int32, g = upd fg_ (pl : Int32).toNatClampNeg ls_ := ⟨_, rfl⟩
              rw [← ef_53] at hP hD
              have hP9 := hP.sub (ws' := [(oW, .inr (1, [.ref oC, .ref oK, .ref nw, .ref w1, .ref w2, .ref w3, .ref o7, .ref o8, .ref o9, .ref w4, .ref w5, .ref w6, .ref w7, .int x_46, .int tl, .int fsh, .int wi, .int ri, .int fm, .int lm])), (w4, .inl (cI, 200, .inl f_49)), (w5, .inl (cI, 200, .inl f_51)), (w6, .inl (cI, 200, .inl f_52)), (w7, .inl (cI, 200, .inl f_53))]) [0, 1, 2, 3, 4] rfl
              have hD9 := hD.sub (ws' := [(oW, .inr (1, [.ref oC, .ref oK, .ref nw, .ref w1, .ref w2, .ref w3, .ref o7, .ref o8, .ref o9, .ref w4, .ref w5, .ref w6, .ref w7, .int x_46, .int tl, .int fsh, .int wi, .int ri, .int fm, .int lm])), (w4, .inl (cI, 200, .inl f_49)), (w5, .inl (cI, 200, .inl f_51)), (w6, .inl (cI, 200, .inl f_52)), (w7, .inl (cI, 200, .inl f_53))]) [0, 1, 2, 3, 4] (by decide) rfl
              rw [hQQ]
              exact W.vret hx hb hr (fun t ht hW => ⟨⟨(), rfl, trivial, ⟨x_46, f_49, f_51, f_52, f_53, by rw [ht]; exact hP9, hD9, by omega, by show (ke.toInt < 200 ∧ x_46.toInt = ke.toInt + 1) ∨ (ke.toInt = 200 ∧ x_46.toInt = 200); omega, kp_end hkp hsr (by omega) (by omega) (by have c8 := v_clamp (x := x_46) (by omega); omega) ef_49 ef_51 ef_52 ef_53 (by show _ = (if a.toInt = -1 then b.toInt else a.toInt); rw [if_neg (by omega)]) (by show _ = (if a.toInt = -1 then -1 else b.toInt); rw [if_neg (by omega)]) rfl rfl hbg (Or.inl (by omega))⟩⟩, hS.F ht⟩) hS.2.2 dX1_keep_182
            · have tc_48 : a.toInt = (-1) := v_eq c_48
              refine lv_iload_n hx hb dX1_keep_142 rfl (lv_at hl 3 rfl) ?_
              refine lv_goto (tgt := 147) hx hb dX1_keep_143 (by decide) ?_
              refine va_iast hx hb hK hP hD hS 1 0 rfl rfl (v_in (by omega)) dX1_keep_147 (fun H locs hP hD hS => ?_)
              have hP : va_P (dC, dI) vwCl [(oW, .inr (1, [.ref oC, .ref oK, .ref nw, .ref w1, .ref w2, .ref w3, .ref o7, .ref o8, .ref o9, .ref w4, .ref w5, .ref w6, .ref w7, .int x_46, .int tl, .int fsh, .int wi, .int ri, .int fm, .int lm])), (w4, .inl (cI, 200, .inl (upd fd_ (pl : Int32).toNatClampNeg b))), (w5, .inl (cI, 200, .inl fe_)), (w6, .inl (cI, 200, .inl ff_)), (w7, .inl (cI, 200, .inl fg_))] H := hP
              have hD : va_D A [(oW, .inr (1, [.ref oC, .ref oK, .ref nw, .ref w1, .ref w2, .ref w3, .ref o7, .ref o8, .ref o9, .ref w4, .ref w5, .ref w6, .ref w7, .int x_46, .int tl, .int fsh, .int wi, .int ri, .int fm, .int lm])), (w4, .inl (cI, 200, .inl (upd fd_ (pl : Int32).toNatClampNeg b))), (w5, .inl (cI, 200, .inl fe_)), (w6, .inl (cI, 200, .inl ff_)), (w7, .inl (cI, 200, .inl fg_))] := hD
              obtain ⟨f_54, ef_54⟩ : ∃ g : Nat → Int32, g = upd fd_ (pl : Int32).toNatClampNeg b := ⟨_, rfl⟩
              rw [← ef_54] at hP hD
              refine lv_aload_n hx hb dX1_keep_148 rfl (lv_at hl 1 rfl) ?_
              refine va_get (D := (dC, dI)) (ci := 1) (v := .ref w5) (C := RX1) (T := TX1) (N := 20) hx hb hts in_X1 hown hK hP 0 rfl rfl 10 (by decide) (hts (.fieldLink RX1 33 "TextMender$Choices" "secondByte" "[I") (List.mem_of_getElem? (i := 8) rfl)) (fun _ h9 => h9) rfl dX1_keep_149 ?_
              refine lv_iload hx hb dX1_keep_152 (lv_at hl 0 rfl) ?_
              refine lv_iload_n hx hb dX1_keep_154 rfl (lv_at hl 2 rfl) ?_
              refine lv_iconst (v := (-1)) hx hb dX1_keep_155 (by decide) ?_
              refine lv_icmp_ne (tgt := 163) hx hb dX1_keep_156 (by decide) (fun c_55 => by exfalso; have tc_55 : ¬ a.toInt = (-1) := v_ne c_55; omega) (fun c_55 => ?_)
              have tc_55 : a.toInt = (-1) := v_eq c_55
              refine lv_iconst (v := (-1)) hx hb dX1_keep_159 (by decide) ?_
              refine lv_goto (tgt := 164) hx hb dX1_keep_160 (by decide) ?_
              refine va_iast hx hb hK hP hD hS 2 0 rfl rfl (v_in (by omega)) dX1_keep_164 (fun H locs hP hD hS => ?_)
              have hP : va_P (dC, dI) vwCl [(oW, .inr (1, [.ref oC, .ref oK, .ref nw, .ref w1, .ref w2, .ref w3, .ref o7, .ref o8, .ref o9, .ref w4, .ref w5, .ref w6, .ref w7, .int x_46, .int tl, .int fsh, .int wi, .int ri, .int fm, .int lm])), (w4, .inl (cI, 200, .inl f_54)), (w5, .inl (cI, 200, .inl (upd fe_ (pl : Int32).toNatClampNeg (-1)))), (w6, .inl (cI, 200, .inl ff_)), (w7, .inl (cI, 200, .inl fg_))] H := hP
              have hD : va_D A [(oW, .inr (1, [.ref oC, .ref oK, .ref nw, .ref w1, .ref w2, .ref w3, .ref o7, .ref o8, .ref o9, .ref w4, .ref w5, .ref w6, .ref w7, .int x_46, .int tl, .int fsh, .int wi, .int ri, .int fm, .int lm])), (w4, .inl (cI, 200, .inl f_54)), (w5, .inl (cI, 200, .inl (upd fe_ (pl : Int32).toNatClampNeg (-1)))), (w6, .inl (cI, 200, .inl ff_)), (w7, .inl (cI, 200, .inl fg_))] := hD
              obtain ⟨f_56, ef_56⟩ : ∃ g : Nat → Int32, g = upd fe_ (pl : Int32).toNatClampNeg (-1) := ⟨_, rfl⟩
              rw [← ef_56] at hP hD
              refine lv_aload_n hx hb dX1_keep_165 rfl (lv_at hl 1 rfl) ?_
              refine va_get (D := (dC, dI)) (ci := 1) (v := .ref w6) (C := RX1) (T := TX1) (N := 20) hx hb hts in_X1 hown hK hP 0 rfl rfl 11 (by decide) (hts (.fieldLink RX1 36 "TextMender$Choices" "costOf" "[I") (List.mem_of_getElem? (i := 2) rfl)) (fun _ h9 => h9) rfl dX1_keep_166 ?_
              refine lv_iload hx hb dX1_keep_169 (lv_at hl 0 rfl) ?_
              refine lv_iload_n hx hb dX1_keep_171 rfl (lv_at hl 4 rfl) ?_
              refine va_iast hx hb hK hP hD hS 3 0 rfl rfl (v_in (by omega)) dX1_keep_172 (fun H locs hP hD hS => ?_)
              have hP : va_P (dC, dI) vwCl [(oW, .inr (1, [.ref oC, .ref oK, .ref nw, .ref w1, .ref w2, .ref w3, .ref o7, .ref o8, .ref o9, .ref w4, .ref w5, .ref w6, .ref w7, .int x_46, .int tl, .int fsh, .int wi, .int ri, .int fm, .int lm])), (w4, .inl (cI, 200, .inl f_54)), (w5, .inl (cI, 200, .inl f_56)), (w6, .inl (cI, 200, .inl (upd ff_ (pl : Int32).toNatClampNeg sm))), (w7, .inl (cI, 200, .inl fg_))] H := hP
              have hD : va_D A [(oW, .inr (1, [.ref oC, .ref oK, .ref nw, .ref w1, .ref w2, .ref w3, .ref o7, .ref o8, .ref o9, .ref w4, .ref w5, .ref w6, .ref w7, .int x_46, .int tl, .int fsh, .int wi, .int ri, .int fm, .int lm])), (w4, .inl (cI, 200, .inl f_54)), (w5, .inl (cI, 200, .inl f_56)), (w6, .inl (cI, 200, .inl (upd ff_ (pl : Int32).toNatClampNeg sm))), (w7, .inl (cI, 200, .inl fg_))] := hD
              obtain ⟨f_57, ef_57⟩ : ∃ g : Nat → Int32, g = upd ff_ (pl : Int32).toNatClampNeg sm := ⟨_, rfl⟩
              rw [← ef_57] at hP hD
              refine lv_aload_n hx hb dX1_keep_173 rfl (lv_at hl 1 rfl) ?_
              refine va_get (D := (dC, dI)) (ci := 1) (v := .ref w7) (C := RX1) (T := TX1) (N := 20) hx hb hts in_X1 hown hK hP 0 rfl rfl 12 (by decide) (hts (.fieldLink RX1 39 "TextMender$Choices" "lengthOf" "[I") (List.mem_of_getElem? (i := 9) rfl)) (fun _ h9 => h9) rfl dX1_keep_174 ?_
              refine lv_iload hx hb dX1_keep_177 (lv_at hl 0 rfl) ?_
              refine lv_iload hx hb dX1_keep_179 (lv_at hl 5 rfl) ?_
              refine va_iast hx hb hK hP hD hS 4 0 rfl rfl (v_in (by omega)) dX1_keep_181 (fun H locs hP hD hS => ?_)
              have hP : va_P (dC, dI) vwCl [(oW, .inr (1, [.ref oC, .ref oK, .ref nw, .ref w1, .ref w2, .ref w3, .ref o7, .ref o8, .ref o9, .ref w4, .ref w5, .ref w6, .ref w7, .int x_46, .int tl, .int fsh, .int wi, .int ri, .int fm, .int lm])), (w4, .inl (cI, 200, .inl f_54)), (w5, .inl (cI, 200, .inl f_56)), (w6, .inl (cI, 200, .inl f_57)), (w7, .inl (cI, 200, .inl (upd fg_ (pl : Int32).toNatClampNeg ls_)))] H := hP
              have hD : va_D A [(oW, .inr (1, [.ref oC, .ref oK, .ref nw, .ref w1, .ref w2, .ref w3, .ref o7, .ref o8, .ref o9, .ref w4, .ref w5, .ref w6, .ref w7, .int x_46, .int tl, .int fsh, .int wi, .int ri, .int fm, .int lm])), (w4, .inl (cI, 200, .inl f_54)), (w5, .inl (cI, 200, .inl f_56)), (w6, .inl (cI, 200, .inl f_57)), (w7, .inl (cI, 200, .inl (upd fg_ (pl : Int32).toNatClampNeg ls_)))] := hD
              obtain ⟨f_58, ef_58⟩ : ∃ g : Nat → Int32, g = upd fg_ (pl : Int32).toNatClampNeg ls_ := ⟨_, rfl⟩
              rw [← ef_58] at hP hD
              have hP9 := hP.sub (ws' := [(oW, .inr (1, [.ref oC, .ref oK, .ref nw, .ref w1, .ref w2, .ref w3, .ref o7, .ref o8, .ref o9, .ref w4, .ref w5, .ref w6, .ref w7, .int x_46, .int tl, .int fsh, .int wi, .int ri, .int fm, .int lm])), (w4, .inl (cI, 200, .inl f_54)), (w5, .inl (cI, 200, .inl f_56)), (w6, .inl (cI, 200, .inl f_57)), (w7, .inl (cI, 200, .inl f_58))]) [0, 1, 2, 3, 4] rfl
              have hD9 := hD.sub (ws' := [(oW, .inr (1, [.ref oC, .ref oK, .ref nw, .ref w1, .ref w2, .ref w3, .ref o7, .ref o8, .ref o9, .ref w4, .ref w5, .ref w6, .ref w7, .int x_46, .int tl, .int fsh, .int wi, .int ri, .int fm, .int lm])), (w4, .inl (cI, 200, .inl f_54)), (w5, .inl (cI, 200, .inl f_56)), (w6, .inl (cI, 200, .inl f_57)), (w7, .inl (cI, 200, .inl f_58))]) [0, 1, 2, 3, 4] (by decide) rfl
              rw [hQQ]
              exact W.vret hx hb hr (fun t ht hW => ⟨⟨(), rfl, trivial, ⟨x_46, f_54, f_56, f_57, f_58, by rw [ht]; exact hP9, hD9, by omega, by show (ke.toInt < 200 ∧ x_46.toInt = ke.toInt + 1) ∨ (ke.toInt = 200 ∧ x_46.toInt = 200); omega, kp_end hkp hsr (by omega) (by omega) (by have c8 := v_clamp (x := x_46) (by omega); omega) ef_54 ef_56 ef_57 ef_58 (by show _ = (if a.toInt = -1 then b.toInt else a.toInt); rw [if_pos (by omega)]) (by show _ = (if a.toInt = -1 then -1 else b.toInt); rw [if_pos (by omega)]; rfl) rfl rfl hbg (Or.inl (by omega))⟩⟩, hS.F ht⟩) hS.2.2 dX1_keep_182
          · have tc_47 : 0 < pl.toInt := v_nle c_47
            refine lv_aload_n hx hb dX1_keep_48 rfl (lv_at hl 1 rfl) ?_
            refine va_get (D := (dC, dI)) (ci := 1) (v := .ref w6) (C := RX1) (T := TX1) (N := 20) hx hb hts in_X1 hown hK hP 0 rfl rfl 11 (by decide) (hts (.fieldLink RX1 36 "TextMender$Choices" "costOf" "[I") (List.mem_of_getElem? (i := 2) rfl)) (fun _ h9 => h9) rfl dX1_keep_49 ?_
            refine lv_iload hx hb dX1_keep_52 (lv_at hl 0 rfl) ?_
            refine lv_iconst (v := 1) hx hb dX1_keep_54 (by decide) ?_
            refine lv_isub hx hb dX1_keep_55 ?_
            refine lv_topi (fun x_59 ex_59 => ?_)
            have tx_59 : x_59.toInt = pl.toInt - 1 := v_sub ex_59 (by show -2147483648 ≤ pl.toInt - 1; omega) (by show pl.toInt - 1 < 2147483648; omega)
            refine va_iald hx hb hK hP 3 0 rfl rfl (v_in (by omega)) dX1_keep_56 ?_
            refine lv_topi (fun x_60 ex_60 => ?_)
            refine lv_iload_n hx hb dX1_keep_57 rfl (lv_at hl 4 rfl) ?_
            refine lv_icmp_le (tgt := 131) hx hb dX1_keep_58 (by decide) (fun c_61 => ?_) (fun c_61 => ?_)
            · have tc_61 : x_60.toInt ≤ sm.toInt := v_le c_61
              have rw61_0 := v_rng x_60
              refine lv_aload_n hx hb dX1_keep_131 rfl (lv_at hl 1 rfl) ?_
              refine va_get (D := (dC, dI)) (ci := 1) (v := .ref w4) (C := RX1) (T := TX1) (N := 20) hx hb hts in_X1 hown hK hP 0 rfl rfl 9 (by decide) (hts (.fieldLink RX1 30 "TextMender$Choices" "firstByte" "[I") (List.mem_of_getElem? (i := 7) rfl)) (fun _ h9 => h9) rfl dX1_keep_132 ?_
              refine lv_iload hx hb dX1_keep_135 (lv_at hl 0 rfl) ?_
              refine lv_iload_n hx hb dX1_keep_137 rfl (lv_at hl 2 rfl) ?_
              refine lv_iconst (v := (-1)) hx hb dX1_keep_138 (by decide) ?_
              refine lv_icmp_ne (tgt := 146) hx hb dX1_keep_139 (by decide) (fun c_62 => ?_) (fun c_62 => ?_)
              · have tc_62 : ¬ a.toInt = (-1) := v_ne c_62
                refine lv_iload_n hx hb dX1_keep_146 rfl (lv_at hl 2 rfl) ?_
                refine va_iast hx hb hK hP hD hS 1 0 rfl rfl (v_in (by omega)) dX1_keep_147 (fun H locs hP hD hS => ?_)
                have hP : va_P (dC, dI) vwCl [(oW, .inr (1, [.ref oC, .ref oK, .ref nw, .ref w1, .ref w2, .ref w3, .ref o7, .ref o8, .ref o9, .ref w4, .ref w5, .ref w6, .ref w7, .int x_46, .int tl, .int fsh, .int wi, .int ri, .int fm, .int lm])), (w4, .inl (cI, 200, .inl (upd fd_ (pl : Int32).toNatClampNeg a))), (w5, .inl (cI, 200, .inl fe_)), (w6, .inl (cI, 200, .inl ff_)), (w7, .inl (cI, 200, .inl fg_))] H := hP
                have hD : va_D A [(oW, .inr (1, [.ref oC, .ref oK, .ref nw, .ref w1, .ref w2, .ref w3, .ref o7, .ref o8, .ref o9, .ref w4, .ref w5, .ref w6, .ref w7, .int x_46, .int tl, .int fsh, .int wi, .int ri, .int fm, .int lm])), (w4, .inl (cI, 200, .inl (upd fd_ (pl : Int32).toNatClampNeg a))), (w5, .inl (cI, 200, .inl fe_)), (w6, .inl (cI, 200, .inl ff_)), (w7, .inl (cI, 200, .inl fg_))] := hD
                obtain ⟨f_63, ef_63⟩ : ∃ g : Nat → Int32, g = upd fd_ (pl : Int32).toNatClampNeg a := ⟨_, rfl⟩
                rw [← ef_63] at hP hD
                refine lv_aload_n hx hb dX1_keep_148 rfl (lv_at hl 1 rfl) ?_
                refine va_get (D := (dC, dI)) (ci := 1) (v := .ref w5) (C := RX1) (T := TX1) (N := 20) hx hb hts in_X1 hown hK hP 0 rfl rfl 10 (by decide) (hts (.fieldLink RX1 33 "TextMender$Choices" "secondByte" "[I") (List.mem_of_getElem? (i := 8) rfl)) (fun _ h9 => h9) rfl dX1_keep_149 ?_
                refine lv_iload hx hb dX1_keep_152 (lv_at hl 0 rfl) ?_
                refine lv_iload_n hx hb dX1_keep_154 rfl (lv_at hl 2 rfl) ?_
                refine lv_iconst (v := (-1)) hx hb dX1_keep_155 (by decide) ?_
                refine lv_icmp_ne (tgt := 163) hx hb dX1_keep_156 (by decide) (fun c_64 => ?_) (fun c_64 => by exfalso; have tc_64 : a.toInt = (-1) := v_eq c_64; omega)
                have tc_64 : ¬ a.toInt = (-1) := v_ne c_64
                refine lv_iload_n hx hb dX1_keep_163 rfl (lv_at hl 3 rfl) ?_
                refine va_iast hx hb hK hP hD hS 2 0 rfl rfl (v_in (by omega)) dX1_keep_164 (fun H locs hP hD hS => ?_)
                have hP : va_P (dC, dI) vwCl [(oW, .inr (1, [.ref oC, .ref oK, .ref nw, .ref w1, .ref w2, .ref w3, .ref o7, .ref o8, .ref o9, .ref w4, .ref w5, .ref w6, .ref w7, .int x_46, .int tl, .int fsh, .int wi, .int ri, .int fm, .int lm])), (w4, .inl (cI, 200, .inl f_63)), (w5, .inl (cI, 200, .inl (upd fe_ (pl : Int32).toNatClampNeg b))), (w6, .inl (cI, 200, .inl ff_)), (w7, .inl (cI, 200, .inl fg_))] H := hP
                have hD : va_D A [(oW, .inr (1, [.ref oC, .ref oK, .ref nw, .ref w1, .ref w2, .ref w3, .ref o7, .ref o8, .ref o9, .ref w4, .ref w5, .ref w6, .ref w7, .int x_46, .int tl, .int fsh, .int wi, .int ri, .int fm, .int lm])), (w4, .inl (cI, 200, .inl f_63)), (w5, .inl (cI, 200, .inl (upd fe_ (pl : Int32).toNatClampNeg b))), (w6, .inl (cI, 200, .inl ff_)), (w7, .inl (cI, 200, .inl fg_))] := hD
                obtain ⟨f_65, ef_65⟩ : ∃ g : Nat → Int32, g = upd fe_ (pl : Int32).toNatClampNeg b := ⟨_, rfl⟩
                rw [← ef_65] at hP hD
                refine lv_aload_n hx hb dX1_keep_165 rfl (lv_at hl 1 rfl) ?_
                refine va_get (D := (dC, dI)) (ci := 1) (v := .ref w6) (C := RX1) (T := TX1) (N := 20) hx hb hts in_X1 hown hK hP 0 rfl rfl 11 (by decide) (hts (.fieldLink RX1 36 "TextMender$Choices" "costOf" "[I") (List.mem_of_getElem? (i := 2) rfl)) (fun _ h9 => h9) rfl dX1_keep_166 ?_
                refine lv_iload hx hb dX1_keep_169 (lv_at hl 0 rfl) ?_
                refine lv_iload_n hx hb dX1_keep_171 rfl (lv_at hl 4 rfl) ?_
                refine va_iast hx hb hK hP hD hS 3 0 rfl rfl (v_in (by omega)) dX1_keep_172 (fun H locs hP hD hS => ?_)
                have hP : va_P (dC, dI) vwCl [(oW, .inr (1, [.ref oC, .ref oK, .ref nw, .ref w1, .ref w2, .ref w3, .ref o7, .ref o8, .ref o9, .ref w4, .ref w5, .ref w6, .ref w7, .int x_46, .int tl, .int fsh, .int wi, .int ri, .int fm, .int lm])), (w4, .inl (cI, 200, .inl f_63)), (w5, .inl (cI, 200, .inl f_65)), (w6, .inl (cI, 200, .inl (upd ff_ (pl : Int32).toNatClampNeg sm))), (w7, .inl (cI, 200, .inl fg_))] H := hP
                have hD : va_D A [(oW, .inr (1, [.ref oC, .ref oK, .ref nw, .ref w1, .ref w2, .ref w3, .ref o7, .ref o8, .ref o9, .ref w4, .ref w5, .ref w6, .ref w7, .int x_46, .int tl, .int fsh, .int wi, .int ri, .int fm, .int lm])), (w4, .inl (cI, 200, .inl f_63)), (w5, .inl (cI, 200, .inl f_65)), (w6, .inl (cI, 200, .inl (upd ff_ (pl : Int32).toNatClampNeg sm))), (w7, .inl (cI, 200, .inl fg_))] := hD
                obtain ⟨f_66, ef_66⟩ : ∃ g : Nat → Int32, g = upd ff_ (pl : Int32).toNatClampNeg sm := ⟨_, rfl⟩
                rw [← ef_66] at hP hD
                refine lv_aload_n hx hb dX1_keep_173 rfl (lv_at hl 1 rfl) ?_
                refine va_get (D := (dC, dI)) (ci := 1) (v := .ref w7) (C := RX1) (T := TX1) (N := 20) hx hb hts in_X1 hown hK hP 0 rfl rfl 12 (by decide) (hts (.fieldLink RX1 39 "TextMender$Choices" "lengthOf" "[I") (List.mem_of_getElem? (i := 9) rfl)) (fun _ h9 => h9) rfl dX1_keep_174 ?_
                refine lv_iload hx hb dX1_keep_177 (lv_at hl 0 rfl) ?_
                refine lv_iload hx hb dX1_keep_179 (lv_at hl 5 rfl) ?_
                refine va_iast hx hb hK hP hD hS 4 0 rfl rfl (v_in (by omega)) dX1_keep_181 (fun H locs hP hD hS => ?_)
                have hP : va_P (dC, dI) vwCl [(oW, .inr (1, [.ref oC, .ref oK, .ref nw, .ref w1, .ref w2, .ref w3, .ref o7, .ref o8, .ref o9, .ref w4, .ref w5, .ref w6, .ref w7, .int x_46, .int tl, .int fsh, .int wi, .int ri, .int fm, .int lm])), (w4, .inl (cI, 200, .inl f_63)), (w5, .inl (cI, 200, .inl f_65)), (w6, .inl (cI, 200, .inl f_66)), (w7, .inl (cI, 200, .inl (upd fg_ (pl : Int32).toNatClampNeg ls_)))] H := hP
                have hD : va_D A [(oW, .inr (1, [.ref oC, .ref oK, .ref nw, .ref w1, .ref w2, .ref w3, .ref o7, .ref o8, .ref o9, .ref w4, .ref w5, .ref w6, .ref w7, .int x_46, .int tl, .int fsh, .int wi, .int ri, .int fm, .int lm])), (w4, .inl (cI, 200, .inl f_63)), (w5, .inl (cI, 200, .inl f_65)), (w6, .inl (cI, 200, .inl f_66)), (w7, .inl (cI, 200, .inl (upd fg_ (pl : Int32).toNatClampNeg ls_)))] := hD
                obtain ⟨f_67, ef_67⟩ : ∃ g : Nat → Int32, g = upd fg_ (pl : Int32).toNatClampNeg ls_ := ⟨_, rfl⟩
                rw [← ef_67] at hP hD
                have hP9 := hP.sub (ws' := [(oW, .inr (1, [.ref oC, .ref oK, .ref nw, .ref w1, .ref w2, .ref w3, .ref o7, .ref o8, .ref o9, .ref w4, .ref w5, .ref w6, .ref w7, .int x_46, .int tl, .int fsh, .int wi, .int ri, .int fm, .int lm])), (w4, .inl (cI, 200, .inl f_63)), (w5, .inl (cI, 200, .inl f_65)), (w6, .inl (cI, 200, .inl f_66)), (w7, .inl (cI, 200, .inl f_67))]) [0, 1, 2, 3, 4] rfl
                have hD9 := hD.sub (ws' := [(oW, .inr (1, [.ref oC, .ref oK, .ref nw, .ref w1, .ref w2, .ref w3, .ref o7, .ref o8, .ref o9, .ref w4, .ref w5, .ref w6, .ref w7, .int x_46, .int tl, .int fsh, .int wi, .int ri, .int fm, .int lm])), (w4, .inl (cI, 200, .inl f_63)), (w5, .inl (cI, 200, .inl f_65)), (w6, .inl (cI, 200, .inl f_66)), (w7, .inl (cI, 200, .inl f_67))]) [0, 1, 2, 3, 4] (by decide) rfl
                rw [hQQ]
                exact W.vret hx hb hr (fun t ht hW => ⟨⟨(), rfl, trivial, ⟨x_46, f_63, f_65, f_66, f_67, by rw [ht]; exact hP9, hD9, by omega, by show (ke.toInt < 200 ∧ x_46.toInt = ke.toInt + 1) ∨ (ke.toInt = 200 ∧ x_46.toInt = 200); omega, kp_end hkp hsr (by omega) (by omega) (by have c8 := v_clamp (x := x_46) (by omega); omega) ef_63 ef_65 ef_66 ef_67 (by show _ = (if a.toInt = -1 then b.toInt else a.toInt); rw [if_neg (by omega)]) (by show _ = (if a.toInt = -1 then -1 else b.toInt); rw [if_neg (by omega)]) rfl rfl hbg (Or.inr ⟨x_59, x_60, by omega, ex_60, by show _ ≤ sm.toInt; omega⟩)⟩⟩, hS.F ht⟩) hS.2.2 dX1_keep_182
              · have tc_62 : a.toInt = (-1) := v_eq c_62
                refine lv_iload_n hx hb dX1_keep_142 rfl (lv_at hl 3 rfl) ?_
                refine lv_goto (tgt := 147) hx hb dX1_keep_143 (by decide) ?_
                refine va_iast hx hb hK hP hD hS 1 0 rfl rfl (v_in (by omega)) dX1_keep_147 (fun H locs hP hD hS => ?_)
                have hP : va_P (dC, dI) vwCl [(oW, .inr (1, [.ref oC, .ref oK, .ref nw, .ref w1, .ref w2, .ref w3, .ref o7, .ref o8, .ref o9, .ref w4, .ref w5, .ref w6, .ref w7, .int x_46, .int tl, .int fsh, .int wi, .int ri, .int fm, .int lm])), (w4, .inl (cI, 200, .inl (upd fd_ (pl : Int32).toNatClampNeg b))), (w5, .inl (cI, 200, .inl fe_)), (w6, .inl (cI, 200, .inl ff_)), (w7, .inl (cI, 200, .inl fg_))] H := hP
                have hD : va_D A [(oW, .inr (1, [.ref oC, .ref oK, .ref nw, .ref w1, .ref w2, .ref w3, .ref o7, .ref o8, .ref o9, .ref w4, .ref w5, .ref w6, .ref w7, .int x_46, .int tl, .int fsh, .int wi, .int ri, .int fm, .int lm])), (w4, .inl (cI, 200, .inl (upd fd_ (pl : Int32).toNatClampNeg b))), (w5, .inl (cI, 200, .inl fe_)), (w6, .inl (cI, 200, .inl ff_)), (w7, .inl (cI, 200, .inl fg_))] := hD
                obtain ⟨f_68, ef_68⟩ : ∃ g : Nat → Int32, g = upd fd_ (pl : Int32).toNatClampNeg b := ⟨_, rfl⟩
                rw [← ef_68] at hP hD
                refine lv_aload_n hx hb dX1_keep_148 rfl (lv_at hl 1 rfl) ?_
                refine va_get (D := (dC, dI)) (ci := 1) (v := .ref w5) (C := RX1) (T := TX1) (N := 20) hx hb hts in_X1 hown hK hP 0 rfl rfl 10 (by decide) (hts (.fieldLink RX1 33 "TextMender$Choices" "secondByte" "[I") (List.mem_of_getElem? (i := 8) rfl)) (fun _ h9 => h9) rfl dX1_keep_149 ?_
                refine lv_iload hx hb dX1_keep_152 (lv_at hl 0 rfl) ?_
                refine lv_iload_n hx hb dX1_keep_154 rfl (lv_at hl 2 rfl) ?_
                refine lv_iconst (v := (-1)) hx hb dX1_keep_155 (by decide) ?_
                refine lv_icmp_ne (tgt := 163) hx hb dX1_keep_156 (by decide) (fun c_69 => by exfalso; have tc_69 : ¬ a.toInt = (-1) := v_ne c_69; omega) (fun c_69 => ?_)
                have tc_69 : a.toInt = (-1) := v_eq c_69
                refine lv_iconst (v := (-1)) hx hb dX1_keep_159 (by decide) ?_
                refine lv_goto (tgt := 164) hx hb dX1_keep_160 (by decide) ?_
                refine va_iast hx hb hK hP hD hS 2 0 rfl rfl (v_in (by omega)) dX1_keep_164 (fun H locs hP hD hS => ?_)
                have hP : va_P (dC, dI) vwCl [(oW, .inr (1, [.ref oC, .ref oK, .ref nw, .ref w1, .ref w2, .ref w3, .ref o7, .ref o8, .ref o9, .ref w4, .ref w5, .ref w6, .ref w7, .int x_46, .int tl, .int fsh, .int wi, .int ri, .int fm, .int lm])), (w4, .inl (cI, 200, .inl f_68)), (w5, .inl (cI, 200, .inl (upd fe_ (pl : Int32).toNatClampNeg (-1)))), (w6, .inl (cI, 200, .inl ff_)), (w7, .inl (cI, 200, .inl fg_))] H := hP
                have hD : va_D A [(oW, .inr (1, [.ref oC, .ref oK, .ref nw, .ref w1, .ref w2, .ref w3, .ref o7, .ref o8, .ref o9, .ref w4, .ref w5, .ref w6, .ref w7, .int x_46, .int tl, .int fsh, .int wi, .int ri, .int fm, .int lm])), (w4, .inl (cI, 200, .inl f_68)), (w5, .inl (cI, 200, .inl (upd fe_ (pl : Int32).toNatClampNeg (-1)))), (w6, .inl (cI, 200, .inl ff_)), (w7, .inl (cI, 200, .inl fg_))] := hD
                obtain ⟨f_70, ef_70⟩ : ∃ g : Nat → Int32, g = upd fe_ (pl : Int32).toNatClampNeg (-1) := ⟨_, rfl⟩
                rw [← ef_70] at hP hD
                refine lv_aload_n hx hb dX1_keep_165 rfl (lv_at hl 1 rfl) ?_
                refine va_get (D := (dC, dI)) (ci := 1) (v := .ref w6) (C := RX1) (T := TX1) (N := 20) hx hb hts in_X1 hown hK hP 0 rfl rfl 11 (by decide) (hts (.fieldLink RX1 36 "TextMender$Choices" "costOf" "[I") (List.mem_of_getElem? (i := 2) rfl)) (fun _ h9 => h9) rfl dX1_keep_166 ?_
                refine lv_iload hx hb dX1_keep_169 (lv_at hl 0 rfl) ?_
                refine lv_iload_n hx hb dX1_keep_171 rfl (lv_at hl 4 rfl) ?_
                refine va_iast hx hb hK hP hD hS 3 0 rfl rfl (v_in (by omega)) dX1_keep_172 (fun H locs hP hD hS => ?_)
                have hP : va_P (dC, dI) vwCl [(oW, .inr (1, [.ref oC, .ref oK, .ref nw, .ref w1, .ref w2, .ref w3, .ref o7, .ref o8, .ref o9, .ref w4, .ref w5, .ref w6, .ref w7, .int x_46, .int tl, .int fsh, .int wi, .int ri, .int fm, .int lm])), (w4, .inl (cI, 200, .inl f_68)), (w5, .inl (cI, 200, .inl f_70)), (w6, .inl (cI, 200, .inl (upd ff_ (pl : Int32).toNatClampNeg sm))), (w7, .inl (cI, 200, .inl fg_))] H := hP
                have hD : va_D A [(oW, .inr (1, [.ref oC, .ref oK, .ref nw, .ref w1, .ref w2, .ref w3, .ref o7, .ref o8, .ref o9, .ref w4, .ref w5, .ref w6, .ref w7, .int x_46, .int tl, .int fsh, .int wi, .int ri, .int fm, .int lm])), (w4, .inl (cI, 200, .inl f_68)), (w5, .inl (cI, 200, .inl f_70)), (w6, .inl (cI, 200, .inl (upd ff_ (pl : Int32).toNatClampNeg sm))), (w7, .inl (cI, 200, .inl fg_))] := hD
                obtain ⟨f_71, ef_71⟩ : ∃ g : Nat → Int32, g = upd ff_ (pl : Int32).toNatClampNeg sm := ⟨_, rfl⟩
                rw [← ef_71] at hP hD
                refine lv_aload_n hx hb dX1_keep_173 rfl (lv_at hl 1 rfl) ?_
                refine va_get (D := (dC, dI)) (ci := 1) (v := .ref w7) (C := RX1) (T := TX1) (N := 20) hx hb hts in_X1 hown hK hP 0 rfl rfl 12 (by decide) (hts (.fieldLink RX1 39 "TextMender$Choices" "lengthOf" "[I") (List.mem_of_getElem? (i := 9) rfl)) (fun _ h9 => h9) rfl dX1_keep_174 ?_
                refine lv_iload hx hb dX1_keep_177 (lv_at hl 0 rfl) ?_
                refine lv_iload hx hb dX1_keep_179 (lv_at hl 5 rfl) ?_
                refine va_iast hx hb hK hP hD hS 4 0 rfl rfl (v_in (by omega)) dX1_keep_181 (fun H locs hP hD hS => ?_)
                have hP : va_P (dC, dI) vwCl [(oW, .inr (1, [.ref oC, .ref oK, .ref nw, .ref w1, .ref w2, .ref w3, .ref o7, .ref o8, .ref o9, .ref w4, .ref w5, .ref w6, .ref w7, .int x_46, .int tl, .int fsh, .int wi, .int ri, .int fm, .int lm])), (w4, .inl (cI, 200, .inl f_68)), (w5, .inl (cI, 200, .inl f_70)), (w6, .inl (cI, 200, .inl f_71)), (w7, .inl (cI, 200, .inl (upd fg_ (pl : Int32).toNatClampNeg ls_)))] H := hP
                have hD : va_D A [(oW, .inr (1, [.ref oC, .ref oK, .ref nw, .ref w1, .ref w2, .ref w3, .ref o7, .ref o8, .ref o9, .ref w4, .ref w5, .ref w6, .ref w7, .int x_46, .int tl, .int fsh, .int wi, .int ri, .int fm, .int lm])), (w4, .inl (cI, 200, .inl f_68)), (w5, .inl (cI, 200, .inl f_70)), (w6, .inl (cI, 200, .inl f_71)), (w7, .inl (cI, 200, .inl (upd fg_ (pl : Int32).toNatClampNeg ls_)))] := hD
                obtain ⟨f_72, ef_72⟩ : ∃ g : Nat → Int32, g = upd fg_ (pl : Int32).toNatClampNeg ls_ := ⟨_, rfl⟩
                rw [← ef_72] at hP hD
                have hP9 := hP.sub (ws' := [(oW, .inr (1, [.ref oC, .ref oK, .ref nw, .ref w1, .ref w2, .ref w3, .ref o7, .ref o8, .ref o9, .ref w4, .ref w5, .ref w6, .ref w7, .int x_46, .int tl, .int fsh, .int wi, .int ri, .int fm, .int lm])), (w4, .inl (cI, 200, .inl f_68)), (w5, .inl (cI, 200, .inl f_70)), (w6, .inl (cI, 200, .inl f_71)), (w7, .inl (cI, 200, .inl f_72))]) [0, 1, 2, 3, 4] rfl
                have hD9 := hD.sub (ws' := [(oW, .inr (1, [.ref oC, .ref oK, .ref nw, .ref w1, .ref w2, .ref w3, .ref o7, .ref o8, .ref o9, .ref w4, .ref w5, .ref w6, .ref w7, .int x_46, .int tl, .int fsh, .int wi, .int ri, .int fm, .int lm])), (w4, .inl (cI, 200, .inl f_68)), (w5, .inl (cI, 200, .inl f_70)), (w6, .inl (cI, 200, .inl f_71)), (w7, .inl (cI, 200, .inl f_72))]) [0, 1, 2, 3, 4] (by decide) rfl
                rw [hQQ]
                exact W.vret hx hb hr (fun t ht hW => ⟨⟨(), rfl, trivial, ⟨x_46, f_68, f_70, f_71, f_72, by rw [ht]; exact hP9, hD9, by omega, by show (ke.toInt < 200 ∧ x_46.toInt = ke.toInt + 1) ∨ (ke.toInt = 200 ∧ x_46.toInt = 200); omega, kp_end hkp hsr (by omega) (by omega) (by have c8 := v_clamp (x := x_46) (by omega); omega) ef_68 ef_70 ef_71 ef_72 (by show _ = (if a.toInt = -1 then b.toInt else a.toInt); rw [if_pos (by omega)]) (by show _ = (if a.toInt = -1 then -1 else b.toInt); rw [if_pos (by omega)]; rfl) rfl rfl hbg (Or.inr ⟨x_59, x_60, by omega, ex_60, by show _ ≤ sm.toInt; omega⟩)⟩⟩, hS.F ht⟩) hS.2.2 dX1_keep_182
            · have tc_61 : sm.toInt < x_60.toInt := v_nle c_61
              have rw61_0 := v_rng x_60
              refine lv_aload_n hx hb dX1_keep_61 rfl (lv_at hl 1 rfl) ?_
              refine va_get (D := (dC, dI)) (ci := 1) (v := .ref w4) (C := RX1) (T := TX1) (N := 20) hx hb hts in_X1 hown hK hP 0 rfl rfl 9 (by decide) (hts (.fieldLink RX1 30 "TextMender$Choices" "firstByte" "[I") (List.mem_of_getElem? (i := 7) rfl)) (fun _ h9 => h9) rfl dX1_keep_62 ?_
              refine lv_iload hx hb dX1_keep_65 (lv_at hl 0 rfl) ?_
              refine lv_aload_n hx hb dX1_keep_67 rfl (lv_at hl 1 rfl) ?_
              refine va_get (D := (dC, dI)) (ci := 1) (v := .ref w4) (C := RX1) (T := TX1) (N := 20) hx hb hts in_X1 hown hK hP 0 rfl rfl 9 (by decide) (hts (.fieldLink RX1 30 "TextMender$Choices" "firstByte" "[I") (List.mem_of_getElem? (i := 7) rfl)) (fun _ h9 => h9) rfl dX1_keep_68 ?_
              refine lv_iload hx hb dX1_keep_71 (lv_at hl 0 rfl) ?_
              refine lv_iconst (v := 1) hx hb dX1_keep_73 (by decide) ?_
              refine lv_isub hx hb dX1_keep_74 ?_
              refine lv_topi (fun x_73 ex_73 => ?_)
              have tx_73 : x_73.toInt = pl.toInt - 1 := v_sub ex_73 (by show -2147483648 ≤ pl.toInt - 1; omega) (by show pl.toInt - 1 < 2147483648; omega)
              refine va_iald hx hb hK hP 1 0 rfl rfl (v_in (by omega)) dX1_keep_75 ?_
              refine lv_topi (fun x_74 ex_74 => ?_)
              refine va_iast hx hb hK hP hD hS 1 0 rfl rfl (v_in (by omega)) dX1_keep_76 (fun H locs hP hD hS => ?_)
              have hP : va_P (dC, dI) vwCl [(oW, .inr (1, [.ref oC, .ref oK, .ref nw, .ref w1, .ref w2, .ref w3, .ref o7, .ref o8, .ref o9, .ref w4, .ref w5, .ref w6, .ref w7, .int x_46, .int tl, .int fsh, .int wi, .int ri, .int fm, .int lm])), (w4, .inl (cI, 200, .inl (upd fd_ (pl : Int32).toNatClampNeg x_74))), (w5, .inl (cI, 200, .inl fe_)), (w6, .inl (cI, 200, .inl ff_)), (w7, .inl (cI, 200, .inl fg_))] H := hP
              have hD : va_D A [(oW, .inr (1, [.ref oC, .ref oK, .ref nw, .ref w1, .ref w2, .ref w3, .ref o7, .ref o8, .ref o9, .ref w4, .ref w5, .ref w6, .ref w7, .int x_46, .int tl, .int fsh, .int wi, .int ri, .int fm, .int lm])), (w4, .inl (cI, 200, .inl (upd fd_ (pl : Int32).toNatClampNeg x_74))), (w5, .inl (cI, 200, .inl fe_)), (w6, .inl (cI, 200, .inl ff_)), (w7, .inl (cI, 200, .inl fg_))] := hD
              obtain ⟨f_75, ef_75⟩ : ∃ g : Nat → Int32, g = upd fd_ (pl : Int32).toNatClampNeg x_74 := ⟨_, rfl⟩
              rw [← ef_75] at hP hD
              refine lv_aload_n hx hb dX1_keep_77 rfl (lv_at hl 1 rfl) ?_
              refine va_get (D := (dC, dI)) (ci := 1) (v := .ref w5) (C := RX1) (T := TX1) (N := 20) hx hb hts in_X1 hown hK hP 0 rfl rfl 10 (by decide) (hts (.fieldLink RX1 33 "TextMender$Choices" "secondByte" "[I") (List.mem_of_getElem? (i := 8) rfl)) (fun _ h9 => h9) rfl dX1_keep_78 ?_
              refine lv_iload hx hb dX1_keep_81 (lv_at hl 0 rfl) ?_
              refine lv_aload_n hx hb dX1_keep_83 rfl (lv_at hl 1 rfl) ?_
              refine va_get (D := (dC, dI)) (ci := 1) (v := .ref w5) (C := RX1) (T := TX1) (N := 20) hx hb hts in_X1 hown hK hP 0 rfl rfl 10 (by decide) (hts (.fieldLink RX1 33 "TextMender$Choices" "secondByte" "[I") (List.mem_of_getElem? (i := 8) rfl)) (fun _ h9 => h9) rfl dX1_keep_84 ?_
              refine lv_iload hx hb dX1_keep_87 (lv_at hl 0 rfl) ?_
              refine lv_iconst (v := 1) hx hb dX1_keep_89 (by decide) ?_
              refine lv_isub hx hb dX1_keep_90 ?_
              refine lv_topi (fun x_76 ex_76 => ?_)
              have tx_76 : x_76.toInt = pl.toInt - 1 := v_sub ex_76 (by show -2147483648 ≤ pl.toInt - 1; omega) (by show pl.toInt - 1 < 2147483648; omega)
              refine va_iald hx hb hK hP 2 0 rfl rfl (v_in (by omega)) dX1_keep_91 ?_
              refine lv_topi (fun x_77 ex_77 => ?_)
              refine va_iast hx hb hK hP hD hS 2 0 rfl rfl (v_in (by omega)) dX1_keep_92 (fun H locs hP hD hS => ?_)
              have hP : va_P (dC, dI) vwCl [(oW, .inr (1, [.ref oC, .ref oK, .ref nw, .ref w1, .ref w2, .ref w3, .ref o7, .ref o8, .ref o9, .ref w4, .ref w5, .ref w6, .ref w7, .int x_46, .int tl, .int fsh, .int wi, .int ri, .int fm, .int lm])), (w4, .inl (cI, 200, .inl f_75)), (w5, .inl (cI, 200, .inl (upd fe_ (pl : Int32).toNatClampNeg x_77))), (w6, .inl (cI, 200, .inl ff_)), (w7, .inl (cI, 200, .inl fg_))] H := hP
              have hD : va_D A [(oW, .inr (1, [.ref oC, .ref oK, .ref nw, .ref w1, .ref w2, .ref w3, .ref o7, .ref o8, .ref o9, .ref w4, .ref w5, .ref w6, .ref w7, .int x_46, .int tl, .int fsh, .int wi, .int ri, .int fm, .int lm])), (w4, .inl (cI, 200, .inl f_75)), (w5, .inl (cI, 200, .inl (upd fe_ (pl : Int32).toNatClampNeg x_77))), (w6, .inl (cI, 200, .inl ff_)), (w7, .inl (cI, 200, .inl fg_))] := hD
              obtain ⟨f_78, ef_78⟩ : ∃ g : Nat → Int32, g = upd fe_ (pl : Int32).toNatClampNeg x_77 := ⟨_, rfl⟩
              rw [← ef_78] at hP hD
              refine lv_aload_n hx hb dX1_keep_93 rfl (lv_at hl 1 rfl) ?_
              refine va_get (D := (dC, dI)) (ci := 1) (v := .ref w6) (C := RX1) (T := TX1) (N := 20) hx hb hts in_X1 hown hK hP 0 rfl rfl 11 (by decide) (hts (.fieldLink RX1 36 "TextMender$Choices" "costOf" "[I") (List.mem_of_getElem? (i := 2) rfl)) (fun _ h9 => h9) rfl dX1_keep_94 ?_
              refine lv_iload hx hb dX1_keep_97 (lv_at hl 0 rfl) ?_
              refine lv_aload_n hx hb dX1_keep_99 rfl (lv_at hl 1 rfl) ?_
              refine va_get (D := (dC, dI)) (ci := 1) (v := .ref w6) (C := RX1) (T := TX1) (N := 20) hx hb hts in_X1 hown hK hP 0 rfl rfl 11 (by decide) (hts (.fieldLink RX1 36 "TextMender$Choices" "costOf" "[I") (List.mem_of_getElem? (i := 2) rfl)) (fun _ h9 => h9) rfl dX1_keep_100 ?_
              refine lv_iload hx hb dX1_keep_103 (lv_at hl 0 rfl) ?_
              refine lv_iconst (v := 1) hx hb dX1_keep_105 (by decide) ?_
              refine lv_isub hx hb dX1_keep_106 ?_
              refine lv_topi (fun x_79 ex_79 => ?_)
              have tx_79 : x_79.toInt = pl.toInt - 1 := v_sub ex_79 (by show -2147483648 ≤ pl.toInt - 1; omega) (by show pl.toInt - 1 < 2147483648; omega)
              refine va_iald hx hb hK hP 3 0 rfl rfl (v_in (by omega)) dX1_keep_107 ?_
              refine lv_topi (fun x_80 ex_80 => ?_)
              refine va_iast hx hb hK hP hD hS 3 0 rfl rfl (v_in (by omega)) dX1_keep_108 (fun H locs hP hD hS => ?_)
              have hP : va_P (dC, dI) vwCl [(oW, .inr (1, [.ref oC, .ref oK, .ref nw, .ref w1, .ref w2, .ref w3, .ref o7, .ref o8, .ref o9, .ref w4, .ref w5, .ref w6, .ref w7, .int x_46, .int tl, .int fsh, .int wi, .int ri, .int fm, .int lm])), (w4, .inl (cI, 200, .inl f_75)), (w5, .inl (cI, 200, .inl f_78)), (w6, .inl (cI, 200, .inl (upd ff_ (pl : Int32).toNatClampNeg x_80))), (w7, .inl (cI, 200, .inl fg_))] H := hP
              have hD : va_D A [(oW, .inr (1, [.ref oC, .ref oK, .ref nw, .ref w1, .ref w2, .ref w3, .ref o7, .ref o8, .ref o9, .ref w4, .ref w5, .ref w6, .ref w7, .int x_46, .int tl, .int fsh, .int wi, .int ri, .int fm, .int lm])), (w4, .inl (cI, 200, .inl f_75)), (w5, .inl (cI, 200, .inl f_78)), (w6, .inl (cI, 200, .inl (upd ff_ (pl : Int32).toNatClampNeg x_80))), (w7, .inl (cI, 200, .inl fg_))] := hD
              obtain ⟨f_81, ef_81⟩ : ∃ g : Nat → Int32, g = upd ff_ (pl : Int32).toNatClampNeg x_80 := ⟨_, rfl⟩
              rw [← ef_81] at hP hD
              refine lv_aload_n hx hb dX1_keep_109 rfl (lv_at hl 1 rfl) ?_
              refine va_get (D := (dC, dI)) (ci := 1) (v := .ref w7) (C := RX1) (T := TX1) (N := 20) hx hb hts in_X1 hown hK hP 0 rfl rfl 12 (by decide) (hts (.fieldLink RX1 39 "TextMender$Choices" "lengthOf" "[I") (List.mem_of_getElem? (i := 9) rfl)) (fun _ h9 => h9) rfl dX1_keep_110 ?_
              refine lv_iload hx hb dX1_keep_113 (lv_at hl 0 rfl) ?_
              refine lv_aload_n hx hb dX1_keep_115 rfl (lv_at hl 1 rfl) ?_
              refine va_get (D := (dC, dI)) (ci := 1) (v := .ref w7) (C := RX1) (T := TX1) (N := 20) hx hb hts in_X1 hown hK hP 0 rfl rfl 12 (by decide) (hts (.fieldLink RX1 39 "TextMender$Choices" "lengthOf" "[I") (List.mem_of_getElem? (i := 9) rfl)) (fun _ h9 => h9) rfl dX1_keep_116 ?_
              refine lv_iload hx hb dX1_keep_119 (lv_at hl 0 rfl) ?_
              refine lv_iconst (v := 1) hx hb dX1_keep_121 (by decide) ?_
              refine lv_isub hx hb dX1_keep_122 ?_
              refine lv_topi (fun x_82 ex_82 => ?_)
              have tx_82 : x_82.toInt = pl.toInt - 1 := v_sub ex_82 (by show -2147483648 ≤ pl.toInt - 1; omega) (by show pl.toInt - 1 < 2147483648; omega)
              refine va_iald hx hb hK hP 4 0 rfl rfl (v_in (by omega)) dX1_keep_123 ?_
              refine lv_topi (fun x_83 ex_83 => ?_)
              refine va_iast hx hb hK hP hD hS 4 0 rfl rfl (v_in (by omega)) dX1_keep_124 (fun H locs hP hD hS => ?_)
              have hP : va_P (dC, dI) vwCl [(oW, .inr (1, [.ref oC, .ref oK, .ref nw, .ref w1, .ref w2, .ref w3, .ref o7, .ref o8, .ref o9, .ref w4, .ref w5, .ref w6, .ref w7, .int x_46, .int tl, .int fsh, .int wi, .int ri, .int fm, .int lm])), (w4, .inl (cI, 200, .inl f_75)), (w5, .inl (cI, 200, .inl f_78)), (w6, .inl (cI, 200, .inl f_81)), (w7, .inl (cI, 200, .inl (upd fg_ (pl : Int32).toNatClampNeg x_83)))] H := hP
              have hD : va_D A [(oW, .inr (1, [.ref oC, .ref oK, .ref nw, .ref w1, .ref w2, .ref w3, .ref o7, .ref o8, .ref o9, .ref w4, .ref w5, .ref w6, .ref w7, .int x_46, .int tl, .int fsh, .int wi, .int ri, .int fm, .int lm])), (w4, .inl (cI, 200, .inl f_75)), (w5, .inl (cI, 200, .inl f_78)), (w6, .inl (cI, 200, .inl f_81)), (w7, .inl (cI, 200, .inl (upd fg_ (pl : Int32).toNatClampNeg x_83)))] := hD
              obtain ⟨f_84, ef_84⟩ : ∃ g : Nat → Int32, g = upd fg_ (pl : Int32).toNatClampNeg x_83 := ⟨_, rfl⟩
              rw [← ef_84] at hP hD
              obtain ⟨x_85, ex_85⟩ : ∃ y : Int32, y = pl + (-1) := ⟨_, rfl⟩
              have tx_85 : x_85.toInt = pl.toInt + (-1) := v_add ex_85 (by show -2147483648 ≤ pl.toInt + (-1); omega) (by show pl.toInt + (-1) < 2147483648; omega)
              refine lv_iinc (v := x_85) (lv' := [(5, .int x_85), (0, .ref oW), (1, .int a), (2, .int b), (3, .int sm), (4, .int ls_)]) hx hb dX1_keep_125 hl (k := 0) rfl (by rw [ex_85]; rfl) (by decide) rfl (fun ls hl => ?_)
              refine lv_goto (tgt := 43) hx hb dX1_keep_128 (by decide) ?_
              exact ih_43 x_85 f_75 f_78 f_81 f_84 _ _ _ (by have hm9 := hm_43; show ((x_85.toInt : Int)).toNat < k_43; omega) (by show 0 ≤ x_85.toInt ∧ x_85.toInt ≤ 199; omega) (by show x_85.toInt ≤ ke.toInt; omega) (KPL_s4 hkp (by omega) (a0 := x_73) (by omega) (a1 := x_76) (by omega) (a2 := x_79) (by omega) (a3 := x_82) (by omega) ex_74 ex_77 ex_80 ex_83 ef_75 ef_78 ef_81 ef_84 (by omega)) (kp_big hkp hbg (by omega) (by omega) ex_60 (by omega) (by omega)) hP hD hS (lv_sub hl [0, 1, 2, 3, 4, 5] rfl)
      exact LOOP_43 _ x_45 fW4 fW5 fW6 fW7 _ _ _ (Nat.lt_succ_self _) (by show 0 ≤ x_45.toInt ∧ x_45.toInt ≤ 199; omega) (by show x_45.toInt ≤ ke.toInt; omega) (KPL_0 rfl) (kp_b0 (by omega) ex_43 (by omega)) hP hD hS (lv_sub hl [0, 1, 2, 3, 4, 5] rfl)
    · have tc_44 : x_43.toInt ≤ sm.toInt := v_nlt c_44
      have rw44_0 := v_rng sm
      have rw44_1 := v_rng x_43
      have hP9 := hP.sub (ws' := [(oW, .inr (1, [.ref oC, .ref oK, .ref nw, .ref w1, .ref w2, .ref w3, .ref o7, .ref o8, .ref o9, .ref w4, .ref w5, .ref w6, .ref w7, .int ke, .int tl, .int fsh, .int wi, .int ri, .int fm, .int lm])), (w4, .inl (cI, 200, .inl fW4)), (w5, .inl (cI, 200, .inl fW5)), (w6, .inl (cI, 200, .inl fW6)), (w7, .inl (cI, 200, .inl fW7))]) [0, 1, 2, 3, 4] rfl
      have hD9 := hD.sub (ws' := [(oW, .inr (1, [.ref oC, .ref oK, .ref nw, .ref w1, .ref w2, .ref w3, .ref o7, .ref o8, .ref o9, .ref w4, .ref w5, .ref w6, .ref w7, .int ke, .int tl, .int fsh, .int wi, .int ri, .int fm, .int lm])), (w4, .inl (cI, 200, .inl fW4)), (w5, .inl (cI, 200, .inl fW5)), (w6, .inl (cI, 200, .inl fW6)), (w7, .inl (cI, 200, .inl fW7))]) [0, 1, 2, 3, 4] (by decide) rfl
      rw [hQQ]
      exact W.vret hx hb hr (fun t ht hW => ⟨⟨(), rfl, trivial, ⟨ke, fW4, fW5, fW6, fW7, by rw [ht]; exact hP9, hD9, by omega, by show (ke.toInt < 200 ∧ ke.toInt = ke.toInt + 1) ∨ (ke.toInt = 200 ∧ ke.toInt = 200); omega, kp_id (kp_full (by rw [show (200 : Nat) = ke.toNatClampNeg from (by omega)]; exact hsr) ex_43 (by show _ ≤ sm.toInt; omega)) (by omega)⟩⟩, hS.F ht⟩) hS.2.2 dX1_keep_22
