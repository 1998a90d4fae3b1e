/-! 59b.dec -/
section
set_option maxHeartbeats 40000000 in
set_option maxRecDepth 100000 in
theorem f_X2_letterIn (l : Launch) (dC : Nat → ClassId) (dI : Nat → Nat → Nat) (cI cS : ClassId) (sz : Nat) (fd : Int32)  : Met l yX2_letterIn wsX2_letterIn ({ frames := 0, cells := 0, slots := 0, locals := 0 } : Room) (va_Pc [.int fd] (fun U => U.heap.size = sz ∧ va_P (dC, dI) vwCl [] U.heap ∧ va_K (dC, dI) vwCl [(cI, .int), (cS, .short)] U ∧ va_D (fun _ => True) [])) (va_Qi (fun (r : Int32) (u : Int32) => r = u) (fun (r : Int32) t => va_P (dC, dI) vwCl [] t.heap ∧ va_D (va_A [] sz) [] ∧ (r.toInt = fd.toInt / 16)) (va_A [] sz)) 0 0 (va_A [] sz) := by
  refine Met.ofW (cc := cX2_letterIn) (maxL := 1) (ret := (some .int)) (by decide) rfl ?_
  intro p e s m args below meth c s₁ B hml hv
  obtain ⟨rfl, hsz, hP, hK, hD0⟩ := hv
  have hx := B.exec
  have hb := B.bytes
  have hr := B.returns
  have hts := atoms_spec (ws := wsX2_letterIn) B.pre
  have hown : s.vm.findClass RX2 = some m.cls := findClass_of_methodNamed B.named
  have hlocks := B.notSynchronized
  subst hsz
  have hD := hD0.self (sz := s.heap.size)
  generalize hAe : va_A [] s.heap.size = A at hD ⊢
  have hA : ∀ q : Nat, s.heap.size ≤ q → A q := fun q h => by rw [← hAe]; exact Or.inr h
  have hS : va_S A s.heap s.heap [] := va_S.rf
  have hP : va_P (dC, dI) vwCl [] s.heap := hP
  have hl := lv_entry ([.int fd]) (n := 1) (Nat.le_of_ble_eq_true rfl)
  rw [lg_entry_eq]
  generalize (lg_sl ([.int fd]) ++ List.replicate (1 - (lg_sl ([.int fd])).length) Slot.unset).toArray = ls at hl ⊢
  have hl : lv_has ls 1 [(0, .int fd)] := hl
  obtain ⟨QQ, hQQ⟩ : ∃ QQ : Array Value → State → Outcome → State → Prop, QQ = va_Qi (fun (r : Int32) (u : Int32) => r = u) (fun (r : Int32) t => va_P (dC, dI) vwCl [] t.heap ∧ va_D A [] ∧ (r.toInt = fd.toInt / 16)) A := ⟨_, rfl⟩
  rw [← hQQ]
  refine lv_iload_n hx hb dX2_letterIn_0 rfl (lv_at hl 0 rfl) ?_
  refine lv_iconst (v := 4) hx hb dX2_letterIn_1 (by decide) ?_
  refine lv_ishr hx hb dX2_letterIn_2 ?_
  refine lv_topi (fun x_1 ex_1 => ?_)
  have rv1_0 := v_rng fd
  have tx_1 : x_1.toInt = fd.toInt / 16 := v_shr 4 ex_1 (by decide)
  have hP9 := hP.sub (ws' := []) [] rfl
  have hD9 := hD.sub (ws' := []) [] (by decide +kernel) rfl
  rw [hQQ]
  exact W.iret (v := x_1) hx hb hr (fun t ht hW => ⟨⟨x_1, x_1, rfl, rfl, ⟨by rw [ht]; exact hP9, hD9, by show x_1.toInt = fd.toInt / 16; omega⟩⟩, hS.F ht⟩) hS.2.2 dX2_letterIn_3

set_option maxHeartbeats 40000000 in
set_option maxRecDepth 100000 in
theorem f_X2_bytesIn (l : Launch) (dC : Nat → ClassId) (dI : Nat → Nat → Nat) (cI cS : ClassId) (sz : Nat) (fd : Int32) (g_fd : 0 ≤ fd.toInt ∧ fd.toInt ≤ 2000000) : Met l yX2_bytesIn wsX2_bytesIn ({ frames := 0, cells := 0, slots := 0, locals := 0 } : Room) (va_Pc [.int fd] (fun U => U.heap.size = sz ∧ va_P (dC, dI) vwCl [] U.heap ∧ va_K (dC, dI) vwCl [(cI, .int), (cS, .short)] U ∧ va_D (fun _ => True) [])) (va_Qi (fun (r : Int32) (u : Int32) => r = u) (fun (r : Int32) t => va_P (dC, dI) vwCl [] t.heap ∧ va_D (va_A [] sz) [] ∧ (0 ≤ r.toInt ∧ r.toInt ≤ 15) ∧ (r.toInt = fd.toInt % 16)) (va_A [] sz)) 0 0 (va_A [] sz) := by
  refine Met.ofW (cc := cX2_bytesIn) (maxL := 1) (ret := (some .int)) (by decide) rfl ?_
  intro p e s m args below meth c s₁ B hml hv
  obtain ⟨rfl, hsz, hP, hK, hD0⟩ := hv
  have hx := B.exec
  have hb := B.bytes
  have hr := B.returns
  have hts := atoms_spec (ws := wsX2_bytesIn) B.pre
  have hown : s.vm.findClass RX2 = some m.cls := findClass_of_methodNamed B.named
  have hlocks := B.notSynchronized
  subst hsz
  have hD := hD0.self (sz := s.heap.size)
  generalize hAe : va_A [] s.heap.size = A at hD ⊢
  have hA : ∀ q : Nat, s.heap.size ≤ q → A q := fun q h => by rw [← hAe]; exact Or.inr h
  have hS : va_S A s.heap s.heap [] := va_S.rf
  have hP : va_P (dC, dI) vwCl [] s.heap := hP
  have hl := lv_entry ([.int fd]) (n := 1) (Nat.le_of_ble_eq_true rfl)
  rw [lg_entry_eq]
  generalize (lg_sl ([.int fd]) ++ List.replicate (1 - (lg_sl ([.int fd])).length) Slot.unset).toArray = ls at hl ⊢
  have hl : lv_has ls 1 [(0, .int fd)] := hl
  obtain ⟨QQ, hQQ⟩ : ∃ QQ : Array Value → State → Outcome → State → Prop, QQ = va_Qi (fun (r : Int32) (u : Int32) => r = u) (fun (r : Int32) t => va_P (dC, dI) vwCl [] t.heap ∧ va_D A [] ∧ (0 ≤ r.toInt ∧ r.toInt ≤ 15) ∧ (r.toInt = fd.toInt % 16)) A := ⟨_, rfl⟩
  rw [← hQQ]
  refine lv_iload_n hx hb dX2_bytesIn_0 rfl (lv_at hl 0 rfl) ?_
  refine lv_bipush (v := 15) hx hb dX2_bytesIn_1 (by decide) ?_
  refine lv_iand hx hb dX2_bytesIn_3 ?_
  refine lv_topi (fun x_1 ex_1 => ?_)
  have tx_1 : 0 ≤ x_1.toInt ∧ x_1.toInt < 16 := v_and 4 ex_1 (by decide) (by decide)
  have tb_x_1 : x_1.toInt = fd.toInt % 16 := v_and15 ex_1 (by omega)
  have hP9 := hP.sub (ws' := []) [] rfl
  have hD9 := hD.sub (ws' := []) [] (by decide +kernel) rfl
  rw [hQQ]
  exact W.iret (v := x_1) hx hb hr (fun t ht hW => ⟨⟨x_1, x_1, rfl, rfl, ⟨by rw [ht]; exact hP9, hD9, by omega, by show x_1.toInt = fd.toInt % 16; omega⟩⟩, hS.F ht⟩) hS.2.2 dX2_bytesIn_4

set_option maxHeartbeats 40000000 in
set_option maxRecDepth 100000 in
theorem f_X2_found (l : Launch) (dC : Nat → ClassId) (dI : Nat → Nat → Nat) (cI cS : ClassId) (sz : Nat) (le : Int32) (by_ : Int32) (g_le : 0 ≤ le.toInt ∧ le.toInt ≤ 65535) (g_by_ : 0 ≤ by_.toInt ∧ by_.toInt ≤ 15) : Met l yX2_found wsX2_found ({ frames := 0, cells := 0, slots := 0, locals := 0 } : Room) (va_Pc [.int le, .int by_] (fun U => U.heap.size = sz ∧ va_P (dC, dI) vwCl [] U.heap ∧ va_K (dC, dI) vwCl [(cI, .int), (cS, .short)] U ∧ va_D (fun _ => True) [])) (va_Qi (fun (r : Int32) (u : Int32) => r = u) (fun (r : Int32) t => va_P (dC, dI) vwCl [] t.heap ∧ va_D (va_A [] sz) [] ∧ (r.toInt = 16 * le.toInt + by_.toInt)) (va_A [] sz)) 0 0 (va_A [] sz) := by
  refine Met.ofW (cc := cX2_found) (maxL := 2) (ret := (some .int)) (by decide) rfl ?_
  intro p e s m args below meth c s₁ B hml hv
  obtain ⟨rfl, hsz, hP, hK, hD0⟩ := hv
  have hx := B.exec
  have hb := B.bytes
  have hr := B.returns
  have hts := atoms_spec (ws := wsX2_found) B.pre
  have hown : s.vm.findClass RX2 = some m.cls := findClass_of_methodNamed B.named
  have hlocks := B.notSynchronized
  subst hsz
  have hD := hD0.self (sz := s.heap.size)
  generalize hAe : va_A [] s.heap.size = A at hD ⊢
  have hA : ∀ q : Nat, s.heap.size ≤ q → A q := fun q h => by rw [← hAe]; exact Or.inr h
  have hS : va_S A s.heap s.heap [] := va_S.rf
  have hP : va_P (dC, dI) vwCl [] s.heap := hP
  have hl := lv_entry ([.int le, .int by_]) (n := 2) (Nat.le_of_ble_eq_true rfl)
  rw [lg_entry_eq]
  generalize (lg_sl ([.int le, .int by_]) ++ List.replicate (2 - (lg_sl ([.int le, .int by_])).length) Slot.unset).toArray = ls at hl ⊢
  have hl : lv_has ls 2 [(0, .int le), (1, .int by_)] := hl
  obtain ⟨QQ, hQQ⟩ : ∃ QQ : Array Value → State → Outcome → State → Prop, QQ = va_Qi (fun (r : Int32) (u : Int32) => r = u) (fun (r : Int32) t => va_P (dC, dI) vwCl [] t.heap ∧ va_D A [] ∧ (r.toInt = 16 * le.toInt + by_.toInt)) A := ⟨_, rfl⟩
  rw [← hQQ]
  refine lv_iload_n hx hb dX2_found_0 rfl (lv_at hl 0 rfl) ?_
  refine lv_iconst (v := (-1)) hx hb dX2_found_1 (by decide) ?_
  refine lv_icmp_ne (tgt := 9) hx hb dX2_found_2 (by decide) (fun c_1 => ?_) (fun c_1 => by exfalso; have tc_1 : le.toInt = (-1) := v_eq c_1; omega)
  have tc_1 : ¬ le.toInt = (-1) := v_ne c_1
  refine lv_iload_n hx hb dX2_found_9 rfl (lv_at hl 0 rfl) ?_
  refine lv_iconst (v := 4) hx hb dX2_found_10 (by decide) ?_
  refine lv_ishl hx hb dX2_found_11 ?_
  refine lv_topi (fun x_2 ex_2 => ?_)
  have tb_x_2 : x_2.toInt = 16 * le.toInt := v_shl4 ex_2 (by omega)
  refine lv_iload_n hx hb dX2_found_12 rfl (lv_at hl 1 rfl) ?_
  refine lv_iadd hx hb dX2_found_13 ?_
  refine lv_topi (fun x_3 ex_3 => ?_)
  have tx_3 : x_3.toInt = x_2.toInt + by_.toInt := v_add ex_3 (by show -2147483648 ≤ x_2.toInt + by_.toInt; omega) (by show x_2.toInt + by_.toInt < 2147483648; omega)
  have hP9 := hP.sub (ws' := []) [] rfl
  have hD9 := hD.sub (ws' := []) [] (by decide +kernel) rfl
  rw [hQQ]
  exact W.iret (v := x_3) hx hb hr (fun t ht hW => ⟨⟨x_3, x_3, rfl, rfl, ⟨by rw [ht]; exact hP9, hD9, by show x_3.toInt = 16 * le.toInt + by_.toInt; omega⟩⟩, hS.F ht⟩) hS.2.2 dX2_found_14

set_option maxHeartbeats 40000000 in
set_option maxRecDepth 100000 in
theorem f_X2_isNumbered (l : Launch) (dC : Nat → ClassId) (dI : Nat → Nat → Nat) (cI cS : ClassId) (sz : Nat) (le : Int32)  : Met l yX2_isNumbered wsX2_isNumbered ({ frames := 0, cells := 0, slots := 0, locals := 0 } : Room) (va_Pc [.int le] (fun U => U.heap.size = sz ∧ va_P (dC, dI) vwCl [] U.heap ∧ va_K (dC, dI) vwCl [(cI, .int), (cS, .short)] U ∧ va_D (fun _ => True) [])) (va_Qi (fun (r : Int32) (u : Int32) => r = u) (fun (r : Int32) t => va_P (dC, dI) vwCl [] t.heap ∧ va_D (va_A [] sz) [] ∧ (0 ≤ r.toInt ∧ r.toInt ≤ 1) ∧ ((r.toInt = 1 ∧ (128 ≤ le.toInt ∨ le.toInt = 38)) ∨ (r.toInt = 0 ∧ le.toInt < 128 ∧ ¬ le.toInt = 38))) (va_A [] sz)) 0 0 (va_A [] sz) := by
  refine Met.ofW (cc := cX2_isNumbered) (maxL := 1) (ret := (some .boolean)) (by decide) rfl ?_
  intro p e s m args below meth c s₁ B hml hv
  obtain ⟨rfl, hsz, hP, hK, hD0⟩ := hv
  have hx := B.exec
  have hb := B.bytes
  have hr := B.returns
  have hts := atoms_spec (ws := wsX2_isNumbered) B.pre
  have hown : s.vm.findClass RX2 = some m.cls := findClass_of_methodNamed B.named
  have hlocks := B.notSynchronized
  subst hsz
  have hD := hD0.self (sz := s.heap.size)
  generalize hAe : va_A [] s.heap.size = A at hD ⊢
  have hA : ∀ q : Nat, s.heap.size ≤ q → A q := fun q h => by rw [← hAe]; exact Or.inr h
  have hS : va_S A s.heap s.heap [] := va_S.rf
  have hP : va_P (dC, dI) vwCl [] s.heap := hP
  have hl := lv_entry ([.int le]) (n := 1) (Nat.le_of_ble_eq_true rfl)
  rw [lg_entry_eq]
  generalize (lg_sl ([.int le]) ++ List.replicate (1 - (lg_sl ([.int le])).length) Slot.unset).toArray = ls at hl ⊢
  have hl : lv_has ls 1 [(0, .int le)] := hl
  obtain ⟨QQ, hQQ⟩ : ∃ QQ : Array Value → State → Outcome → State → Prop, QQ = va_Qi (fun (r : Int32) (u : Int32) => r = u) (fun (r : Int32) t => va_P (dC, dI) vwCl [] t.heap ∧ va_D A [] ∧ (0 ≤ r.toInt ∧ r.toInt ≤ 1) ∧ ((r.toInt = 1 ∧ (128 ≤ le.toInt ∨ le.toInt = 38)) ∨ (r.toInt = 0 ∧ le.toInt < 128 ∧ ¬ le.toInt = 38))) A := ⟨_, rfl⟩
  rw [← hQQ]
  refine lv_iload_n hx hb dX2_isNumbered_0 rfl (lv_at hl 0 rfl) ?_
  refine lv_sipush (v := 128) hx hb dX2_isNumbered_1 (by decide) ?_
  refine lv_icmp_ge (tgt := 13) hx hb dX2_isNumbered_4 (by decide) (fun c_1 => ?_) (fun c_1 => ?_)
  · have tc_1 : 128 ≤ le.toInt := v_le c_1
    refine lv_iconst (v := 1) hx hb dX2_isNumbered_13 (by decide) ?_
    refine lv_goto (tgt := 18) hx hb dX2_isNumbered_14 (by decide) ?_
    have hP9 := hP.sub (ws' := []) [] rfl
    have hD9 := hD.sub (ws' := []) [] (by decide +kernel) rfl
    rw [hQQ]
    exact W.zret (v := 1) (ty := .boolean) hx hb hr (rfl) (fun t ht hW => ⟨⟨1, 1, rfl, rfl, ⟨by rw [ht]; exact hP9, hD9, by decide, by show (1 = 1 ∧ (128 ≤ le.toInt ∨ le.toInt = 38)) ∨ (1 = 0 ∧ le.toInt < 128 ∧ ¬ le.toInt = 38); omega⟩⟩, hS.F ht⟩) hS.2.2 dX2_isNumbered_18
  · have tc_1 : le.toInt < 128 := v_nle c_1
    refine lv_iload_n hx hb dX2_isNumbered_7 rfl (lv_at hl 0 rfl) ?_
    refine lv_bipush (v := 38) hx hb dX2_isNumbered_8 (by decide) ?_
    refine lv_icmp_ne (tgt := 17) hx hb dX2_isNumbered_10 (by decide) (fun c_2 => ?_) (fun c_2 => ?_)
    · have tc_2 : ¬ le.toInt = 38 := v_ne c_2
      refine lv_iconst (v := 0) hx hb dX2_isNumbered_17 (by decide) ?_
      have hP9 := hP.sub (ws' := []) [] rfl
      have hD9 := hD.sub (ws' := []) [] (by decide +kernel) rfl
      rw [hQQ]
      exact W.zret (v := 0) (ty := .boolean) hx hb hr (rfl) (fun t ht hW => ⟨⟨0, 0, rfl, rfl, ⟨by rw [ht]; exact hP9, hD9, by decide, by show (0 = 1 ∧ (128 ≤ le.toInt ∨ le.toInt = 38)) ∨ (0 = 0 ∧ le.toInt < 128 ∧ ¬ le.toInt = 38); omega⟩⟩, hS.F ht⟩) hS.2.2 dX2_isNumbered_18
    · have tc_2 : le.toInt = 38 := v_eq c_2
      refine lv_iconst (v := 1) hx hb dX2_isNumbered_13 (by decide) ?_
      refine lv_goto (tgt := 18) hx hb dX2_isNumbered_14 (by decide) ?_
      have hP9 := hP.sub (ws' := []) [] rfl
      have hD9 := hD.sub (ws' := []) [] (by decide +kernel) rfl
      rw [hQQ]
      exact W.zret (v := 1) (ty := .boolean) hx hb hr (rfl) (fun t ht hW => ⟨⟨1, 1, rfl, rfl, ⟨by rw [ht]; exact hP9, hD9, by decide, by show (1 = 1 ∧ (128 ≤ le.toInt ∨ le.toInt = 38)) ∨ (1 = 0 ∧ le.toInt < 128 ∧ ¬ le.toInt = 38); omega⟩⟩, hS.F ht⟩) hS.2.2 dX2_isNumbered_18

set_option maxHeartbeats 40000000 in
set_option maxRecDepth 100000 in
theorem f_X2_decodeMany (l : Launch) (dC : Nat → ClassId) (dI : Nat → Nat → Nat) (cI cS : ClassId) (sz : Nat) (nu : Nat) (au : Nat) (cap : Nat) (lu : Int32) (fu : Nat → Int32) (fr : Int32) (en : Int32) (g_lu : 0 ≤ lu.toInt ∧ lu.toInt ≤ (cap : Int)) (g_fr : 0 ≤ fr.toInt ∧ fr.toInt ≤ 2400) (hcap : cap ≤ 2400) (hen : en.toInt ≤ lu.toInt) (hfe : fr.toInt < en.toInt) : Met l yX2_decodeMany wsX2_decodeMany ({ frames := 1, cells := 0, slots := 0, locals := 21 } : Room) (va_Pc [.ref nu, .int fr, .int en] (fun U => U.heap.size = sz ∧ va_P (dC, dI) vwCl [(nu, .inr (5, [.ref au, .int lu])), (au, .inl (cI, cap, .inl fu))] U.heap ∧ va_K (dC, dI) vwCl [(cI, .int), (cS, .short)] U ∧ va_D (fun _ => True) [(nu, .inr (5, [.ref au, .int lu])), (au, .inl (cI, cap, .inl fu))] ∧ va_Nw (.methodLinkNest RX2 52 yX11_isLetter "TextMender") U)) (va_Qi (fun (r : Int32) (u : Int32) => r = u) (fun (r : Int32) t => va_P (dC, dI) vwCl [(nu, .inr (5, [.ref au, .int lu])), (au, .inl (cI, cap, .inl fu))] t.heap ∧ va_D (va_A [(nu, .inr (5, [.ref au, .int lu])), (au, .inl (cI, cap, .inl fu))] sz) [(nu, .inr (5, [.ref au, .int lu])), (au, .inl (cI, cap, .inl fu))] ∧ (F_dm r fu en.toInt fr.toNatClampNeg)) (va_A [(nu, .inr (5, [.ref au, .int lu])), (au, .inl (cI, cap, .inl fu))] sz)) 0 0 (va_A [(nu, .inr (5, [.ref au, .int lu])), (au, .inl (cI, cap, .inl fu))] sz) := by
  refine Met.ofW (cc := cX2_decodeMany) (maxL := 8) (ret := (some .int)) (by decide) rfl ?_
  intro p e s m args below meth c s₁ B hml hv
  obtain ⟨rfl, hsz, hP, hK, hD0, hN52⟩ := hv
  have hx := B.exec
  have hb := B.bytes
  have hr := B.returns
  have hts := atoms_spec (ws := wsX2_decodeMany) B.pre
  have hown : s.vm.findClass RX2 = some m.cls := findClass_of_methodNamed B.named
  have hlocks := B.notSynchronized
  subst hsz
  have hD := hD0.self (sz := s.heap.size)
  generalize hAe : va_A [(nu, .inr (5, [.ref au, .int lu])), (au, .inl (cI, cap, .inl fu))] s.heap.size = A at hD ⊢
  have hA : ∀ q : Nat, s.heap.size ≤ q → A q := fun q h => by rw [← hAe]; exact Or.inr h
  have hS : va_S A s.heap s.heap [] := va_S.rf
  have hP : va_P (dC, dI) vwCl [(nu, .inr (5, [.ref au, .int lu])), (au, .inl (cI, cap, .inl fu))] s.heap := hP
  have hl := lv_entry ([.ref nu, .int fr, .int en]) (n := 8) (Nat.le_of_ble_eq_true rfl)
  rw [lg_entry_eq]
  generalize (lg_sl ([.ref nu, .int fr, .int en]) ++ List.replicate (8 - (lg_sl ([.ref nu, .int fr, .int en])).length) Slot.unset).toArray = ls at hl ⊢
  have hl : lv_has ls 8 [(0, .ref nu), (1, .int fr), (2, .int en)] := hl
  obtain ⟨QQ, hQQ⟩ : ∃ QQ : Array Value → State → Outcome → State → Prop, QQ = va_Qi (fun (r : Int32) (u : Int32) => r = u) (fun (r : Int32) t => va_P (dC, dI) vwCl [(nu, .inr (5, [.ref au, .int lu])), (au, .inl (cI, cap, .inl fu))] t.heap ∧ va_D A [(nu, .inr (5, [.ref au, .int lu])), (au, .inl (cI, cap, .inl fu))] ∧ (F_dm r fu en.toInt fr.toNatClampNeg)) A := ⟨_, rfl⟩
  rw [← hQQ]
  have c0 := v_clamp (x := fr) (by omega)
  have z0 : (0 : Int32).toInt = 0 := rfl
  have z1 : (1 : Int32).toInt = 1 := rfl
  have z2 : (2 : Int32).toInt = 2 := rfl
  have z3 : (3 : Int32).toInt = 3 := rfl
  refine lv_aload_n hx hb dX2_decodeMany_0 rfl (lv_at hl 0 rfl) ?_
  refine lv_iload_n hx hb dX2_decodeMany_1 rfl (lv_at hl 1 rfl) ?_
  have hPc := hP.sub (ws' := [(nu, .inr (5, [.ref au, .int lu])), (au, .inl (cI, cap, .inl fu))]) [0, 1] rfl
  have hDc := hD.sub (ws' := [(nu, .inr (5, [.ref au, .int lu])), (au, .inl (cI, cap, .inl fu))]) [0, 1] (by decide +kernel) rfl
  have hFc := va_free (wc := [(nu, .inr (5, [.ref au, .int lu])), (au, .inl (cI, cap, .inl fu))]) hD hS hA [0, 1] rfl
  refine va_calli (va_runV (As := [.int fr]) (rest := []) ⟨hx, hb, hml, hown, hts⟩ (m_X5_get l dC dI cI cS s.heap.size nu au cap lu fu fr (g_lu) (by omega)) (cwV 1 hts gX2_decodeMany_X5_get rfl rfl rfl (by decide +kernel) ⟨Nat.le_of_ble_eq_true rfl, Nat.le_of_ble_eq_true rfl⟩) ⟨fun a U g mk q => by obtain ⟨q0, q1, qP, qK, qD⟩ := q; exact ⟨q0, q1, qP, va_K.moved (u := U) (U := U.calling g mk a) (Vm.Alike.refl U.vm) qK, qD⟩, va_recv hK hPc (ci := 5) (q0 := 0) rfl rfl, fun U hU hW => ⟨rfl, by rw [hU], by rw [hU]; exact hPc, va_K.moved hW.alike hK, hDc.weaken (fun _ _ _ _ => trivial)⟩⟩ rfl rfl hl.1 rfl (lv_room (Nat.le_of_ble_eq_true rfl)) dX2_decodeMany_2 ⟨Nat.le_of_ble_eq_true rfl, Nat.le_of_ble_eq_true rfl⟩) hS (fun q _ h => hFc q h) hFc (fun r_1 u t H1 locs ht hvm hw hB hz1 hk1 hSn => ?_)
  subst hw
  obtain ⟨hP1, hD1, hf1_0⟩ := hB
  rw [ht] at hP1
  obtain ⟨hPn, hDn⟩ := va_join (wr := []) (w1 := [(nu, .inr (5, [.ref au, .int lu])), (au, .inl (cI, cap, .inl fu))]) hP hD [0, 1] [] rfl rfl (by decide +kernel) (by decide +kernel) hk1 hFc hP1 hD1
  clear hP hD hS hPc hDc hFc hk1 hz1 hvm ht hP1 hD1
  generalize H1 = H at hPn hSn ⊢
  have hP : va_P (dC, dI) vwCl [(nu, .inr (5, [.ref au, .int lu])), (au, .inl (cI, cap, .inl fu))] H := hPn
  have hD : va_D A [(nu, .inr (5, [.ref au, .int lu])), (au, .inl (cI, cap, .inl fu))] := hDn
  have hS := hSn
  clear hPn hDn hSn
  have hb1 : r_1.toInt = bt fu en.toInt fr.toNatClampNeg := get_bt (k := fr.toNatClampNeg) hf1_0 (by omega) (by omega) hen
  refine lv_istore_n (lv' := [(3, .int r_1), (0, .ref nu), (1, .int fr), (2, .int en)]) hx hb dX2_decodeMany_5 rfl hl (by decide) rfl (fun ls hl => ?_)
  refine lv_iload_n hx hb dX2_decodeMany_6 rfl (lv_at hl 0 rfl) ?_
  refine lv_sipush (v := 224) hx hb dX2_decodeMany_7 (by decide) ?_
  refine lv_icmp_lt (tgt := 17) hx hb dX2_decodeMany_10 (by decide) (fun c_2 => ?_) (fun c_2 => ?_)
  · have tc_2 : r_1.toInt < 224 := v_lt c_2
    refine lv_iconst (v := 2) hx hb dX2_decodeMany_17 (by decide) ?_
    refine lv_istore (lv' := [(4, .int 2), (3, .int r_1), (0, .ref nu), (1, .int fr), (2, .int en)]) hx hb dX2_decodeMany_18 hl (by decide) rfl (fun ls hl => ?_)
    refine lv_iload_n hx hb dX2_decodeMany_20 rfl (lv_at hl 1 rfl) ?_
    refine lv_sipush (v := 192) hx hb dX2_decodeMany_21 (by decide) ?_
    refine lv_icmp_lt (tgt := 42) hx hb dX2_decodeMany_24 (by decide) (fun c_3 => ?_) (fun c_3 => ?_)
    · have tc_3 : r_1.toInt < 192 := v_lt c_3
      refine lv_iconst (v := (-1)) hx hb dX2_decodeMany_42 (by decide) ?_
      have hP9 := hP.sub (ws' := [(nu, .inr (5, [.ref au, .int lu])), (au, .inl (cI, cap, .inl fu))]) [0, 1] rfl
      have hD9 := hD.sub (ws' := [(nu, .inr (5, [.ref au, .int lu])), (au, .inl (cI, cap, .inl fu))]) [0, 1] (by decide +kernel) rfl
      rw [hQQ]
      exact W.iret (v := (-1)) hx hb hr (fun t ht hW => ⟨⟨(-1), (-1), rfl, rfl, ⟨by rw [ht]; exact hP9, hD9, Or.inr ⟨rfl, fun l x h => by have o1 := bt_c fu en.toInt (fr.toNatClampNeg + 1); have o2 := bt_c fu en.toInt (fr.toNatClampNeg + 2); unfold DMa DM at h; omega⟩⟩⟩, hS.F ht⟩) hS.2.2 dX2_decodeMany_43
    · have tc_3 : 192 ≤ r_1.toInt := v_nlt c_3
      refine lv_iload_n hx hb dX2_decodeMany_27 rfl (lv_at hl 1 rfl) ?_
      refine lv_sipush (v := 239) hx hb dX2_decodeMany_28 (by decide) ?_
      refine lv_icmp_gt (tgt := 42) hx hb dX2_decodeMany_31 (by decide) (fun c_4 => by exfalso; have tc_4 : 239 < r_1.toInt := v_lt c_4; omega) (fun c_4 => ?_)
      have tc_4 : r_1.toInt ≤ 239 := v_nlt c_4
      refine lv_iload hx hb dX2_decodeMany_34 (lv_at hl 0 rfl) ?_
      refine lv_iload_n hx hb dX2_decodeMany_36 rfl (lv_at hl 4 rfl) ?_
      refine lv_iload_n hx hb dX2_decodeMany_37 rfl (lv_at hl 3 rfl) ?_
      refine lv_isub hx hb dX2_decodeMany_38 ?_
      refine lv_topi (fun x_5 ex_5 => ?_)
      have tx_5 : x_5.toInt = en.toInt - fr.toInt := v_sub ex_5 (by show -2147483648 ≤ en.toInt - fr.toInt; omega) (by show en.toInt - fr.toInt < 2147483648; omega)
      refine lv_icmp_le (tgt := 44) hx hb dX2_decodeMany_39 (by decide) (fun c_6 => ?_) (fun c_6 => ?_)
      · have tc_6 : 2 ≤ x_5.toInt := v_le c_6
        refine lv_iload hx hb dX2_decodeMany_44 (lv_at hl 0 rfl) ?_
        refine lv_iconst (v := 3) hx hb dX2_decodeMany_46 (by decide) ?_
        refine lv_icmp_ne (tgt := 58) hx hb dX2_decodeMany_47 (by decide) (fun c_7 => ?_) (fun c_7 => absurd c_7 (by decide))
        refine lv_iload_n hx hb dX2_decodeMany_58 rfl (lv_at hl 1 rfl) ?_
        refine lv_sipush (v := 192) hx hb dX2_decodeMany_59 (by decide) ?_
        refine lv_isub hx hb dX2_decodeMany_62 ?_
        refine lv_topi (fun x_8 ex_8 => ?_)
        have tx_8 : x_8.toInt = r_1.toInt - 192 := v_sub ex_8 (by show -2147483648 ≤ r_1.toInt - 192; omega) (by show r_1.toInt - 192 < 2147483648; omega)
        refine lv_istore (lv' := [(5, .int x_8), (4, .int 2), (3, .int r_1), (0, .ref nu), (1, .int fr), (2, .int en)]) hx hb dX2_decodeMany_63 hl (by decide) rfl (fun ls hl => ?_)
        refine lv_iconst (v := 1) hx hb dX2_decodeMany_65 (by decide) ?_
        refine lv_istore (lv' := [(6, .int 1), (5, .int x_8), (4, .int 2), (3, .int r_1), (0, .ref nu), (1, .int fr), (2, .int en)]) hx hb dX2_decodeMany_66 hl (by decide) rfl (fun ls hl => ?_)
        refine lv_iload hx hb dX2_decodeMany_68 (lv_at hl 0 rfl) ?_
        refine lv_iload hx hb dX2_decodeMany_70 (lv_at hl 2 rfl) ?_
        refine lv_icmp_ge (tgt := 123) hx hb dX2_decodeMany_72 (by decide) (fun c_9 => absurd c_9 (by decide)) (fun c_9 => ?_)
        refine lv_aload_n hx hb dX2_decodeMany_75 rfl (lv_at hl 4 rfl) ?_
        refine lv_iload_n hx hb dX2_decodeMany_76 rfl (lv_at hl 5 rfl) ?_
        refine lv_iload hx hb dX2_decodeMany_77 (lv_at hl 0 rfl) ?_
        refine lv_iadd hx hb dX2_decodeMany_79 ?_
        refine lv_topi (fun x_10 ex_10 => ?_)
        have tx_10 : x_10.toInt = fr.toInt + 1 := v_add ex_10 (by show -2147483648 ≤ fr.toInt + 1; omega) (by show fr.toInt + 1 < 2147483648; omega)
        have hPc := hP.sub (ws' := [(nu, .inr (5, [.ref au, .int lu])), (au, .inl (cI, cap, .inl fu))]) [0, 1] rfl
        have hDc := hD.sub (ws' := [(nu, .inr (5, [.ref au, .int lu])), (au, .inl (cI, cap, .inl fu))]) [0, 1] (by decide +kernel) rfl
        have hFc := va_free (wc := [(nu, .inr (5, [.ref au, .int lu])), (au, .inl (cI, cap, .inl fu))]) hD hS hA [0, 1] rfl
        refine va_calli (va_runV (As := [.int x_10]) (rest := []) ⟨hx, hb, hml, hown, hts⟩ (m_X5_get l dC dI cI cS H.size nu au cap lu fu x_10 (g_lu) (by omega)) (cwV 1 hts gX2_decodeMany_X5_get rfl rfl rfl (by decide +kernel) ⟨Nat.le_of_ble_eq_true rfl, Nat.le_of_ble_eq_true rfl⟩) ⟨fun a U g mk q => by obtain ⟨q0, q1, qP, qK, qD⟩ := q; exact ⟨q0, q1, qP, va_K.moved (u := U) (U := U.calling g mk a) (Vm.Alike.refl U.vm) qK, qD⟩, va_recv hK hPc (ci := 5) (q0 := 0) rfl rfl, fun U hU hW => ⟨rfl, by rw [hU], by rw [hU]; exact hPc, va_K.moved hW.alike hK, hDc.weaken (fun _ _ _ _ => trivial)⟩⟩ rfl rfl hl.1 rfl (lv_room (Nat.le_of_ble_eq_true rfl)) dX2_decodeMany_80 ⟨Nat.le_of_ble_eq_true rfl, Nat.le_of_ble_eq_true rfl⟩) hS (fun q _ h => hFc q h) hFc (fun r_11 u t H1 locs ht hvm hw hB hz1 hk1 hSn => ?_)
        subst hw
        obtain ⟨hP1, hD1, hf11_0⟩ := hB
        rw [ht] at hP1
        obtain ⟨hPn, hDn⟩ := va_join (wr := []) (w1 := [(nu, .inr (5, [.ref au, .int lu])), (au, .inl (cI, cap, .inl fu))]) hP hD [0, 1] [] rfl rfl (by decide +kernel) (by decide +kernel) hk1 hFc hP1 hD1
        clear hP hD hS hPc hDc hFc hk1 hz1 hvm ht hP1 hD1
        generalize H1 = H at hPn hSn ⊢
        have hP : va_P (dC, dI) vwCl [(nu, .inr (5, [.ref au, .int lu])), (au, .inl (cI, cap, .inl fu))] H := hPn
        have hD : va_D A [(nu, .inr (5, [.ref au, .int lu])), (au, .inl (cI, cap, .inl fu))] := hDn
        have hS := hSn
        clear hPn hDn hSn
        have hb11 : r_11.toInt = bt fu en.toInt (fr.toNatClampNeg + 1) := get_bt (k := fr.toNatClampNeg + 1) hf11_0 (by omega) (by omega) hen
        refine lv_istore (lv' := [(7, .int r_11), (6, .int 1), (5, .int x_8), (4, .int 2), (3, .int r_1), (0, .ref nu), (1, .int fr), (2, .int en)]) hx hb dX2_decodeMany_83 hl (by decide) rfl (fun ls hl => ?_)
        refine lv_iload hx hb dX2_decodeMany_85 (lv_at hl 0 rfl) ?_
        refine lv_sipush (v := 128) hx hb dX2_decodeMany_87 (by decide) ?_
        refine lv_icmp_lt (tgt := 101) hx hb dX2_decodeMany_90 (by decide) (fun c_12 => ?_) (fun c_12 => ?_)
        · have tc_12 : r_11.toInt < 128 := v_lt c_12
          refine lv_iconst (v := (-1)) hx hb dX2_decodeMany_101 (by decide) ?_
          have hP9 := hP.sub (ws' := [(nu, .inr (5, [.ref au, .int lu])), (au, .inl (cI, cap, .inl fu))]) [0, 1] rfl
          have hD9 := hD.sub (ws' := [(nu, .inr (5, [.ref au, .int lu])), (au, .inl (cI, cap, .inl fu))]) [0, 1] (by decide +kernel) rfl
          rw [hQQ]
          exact W.iret (v := (-1)) hx hb hr (fun t ht hW => ⟨⟨(-1), (-1), rfl, rfl, ⟨by rw [ht]; exact hP9, hD9, Or.inr ⟨rfl, fun l x h => by have o1 := bt_c fu en.toInt (fr.toNatClampNeg + 1); have o2 := bt_c fu en.toInt (fr.toNatClampNeg + 2); unfold DMa DM at h; omega⟩⟩⟩, hS.F ht⟩) hS.2.2 dX2_decodeMany_102
        · have tc_12 : 128 ≤ r_11.toInt := v_nlt c_12
          refine lv_iload hx hb dX2_decodeMany_93 (lv_at hl 0 rfl) ?_
          refine lv_sipush (v := 191) hx hb dX2_decodeMany_95 (by decide) ?_
          refine lv_icmp_le (tgt := 103) hx hb dX2_decodeMany_98 (by decide) (fun c_13 => ?_) (fun c_13 => ?_)
          · have tc_13 : r_11.toInt ≤ 191 := v_le c_13
            refine lv_iload hx hb dX2_decodeMany_103 (lv_at hl 2 rfl) ?_
            refine lv_bipush (v := 64) hx hb dX2_decodeMany_105 (by decide) ?_
            refine lv_imul hx hb dX2_decodeMany_107 ?_
            refine lv_topi (fun x_14 ex_14 => ?_)
            have tx_14 : x_14.toInt = x_8.toInt * 64 := v_mul ex_14 (by show -2147483648 ≤ x_8.toInt * 64; omega) (by show x_8.toInt * 64 < 2147483648; omega)
            refine lv_iload hx hb dX2_decodeMany_108 (lv_at hl 0 rfl) ?_
            refine lv_iadd hx hb dX2_decodeMany_110 ?_
            refine lv_topi (fun x_15 ex_15 => ?_)
            have tx_15 : x_15.toInt = x_14.toInt + r_11.toInt := v_add ex_15 (by show -2147483648 ≤ x_14.toInt + r_11.toInt; omega) (by show x_14.toInt + r_11.toInt < 2147483648; omega)
            refine lv_sipush (v := 128) hx hb dX2_decodeMany_111 (by decide) ?_
            refine lv_isub hx hb dX2_decodeMany_114 ?_
            refine lv_topi (fun x_16 ex_16 => ?_)
            have tx_16 : x_16.toInt = x_15.toInt - 128 := v_sub ex_16 (by show -2147483648 ≤ x_15.toInt - 128; omega) (by show x_15.toInt - 128 < 2147483648; omega)
            refine lv_istore (lv' := [(5, .int x_16), (7, .int r_11), (6, .int 1), (4, .int 2), (3, .int r_1), (0, .ref nu), (1, .int fr), (2, .int en)]) hx hb dX2_decodeMany_115 hl (by decide) rfl (fun ls hl => ?_)
            refine lv_iinc (v := 2) (lv' := [(6, .int 2), (5, .int x_16), (7, .int r_11), (4, .int 2), (3, .int r_1), (0, .ref nu), (1, .int fr), (2, .int en)]) hx hb dX2_decodeMany_117 hl (k := 2) rfl (by decide) (by decide) rfl (fun ls hl => ?_)
            refine lv_goto (tgt := 68) hx hb dX2_decodeMany_120 (by decide) ?_
            refine lv_iload hx hb dX2_decodeMany_68 (lv_at hl 0 rfl) ?_
            refine lv_iload hx hb dX2_decodeMany_70 (lv_at hl 3 rfl) ?_
            refine lv_icmp_ge (tgt := 123) hx hb dX2_decodeMany_72 (by decide) (fun c_17 => ?_) (fun c_17 => absurd c_17 (by decide))
            refine lv_iload hx hb dX2_decodeMany_123 (lv_at hl 1 rfl) ?_
            refine lv_iload hx hb dX2_decodeMany_125 (lv_at hl 3 rfl) ?_
            refine lv_iconst (v := 3) hx hb dX2_decodeMany_127 (by decide) ?_
            refine lv_icmp_ne (tgt := 137) hx hb dX2_decodeMany_128 (by decide) (fun c_18 => ?_) (fun c_18 => absurd c_18 (by decide))
            refine lv_sipush (v := 128) hx hb dX2_decodeMany_137 (by decide) ?_
            refine lv_icmp_lt (tgt := 147) hx hb dX2_decodeMany_140 (by decide) (fun c_19 => ?_) (fun c_19 => ?_)
            · have tc_19 : x_16.toInt < 128 := v_lt c_19
              refine lv_iconst (v := 0) hx hb dX2_decodeMany_147 (by decide) ?_
              refine lv_istore (lv' := [(6, .int 0), (5, .int x_16), (7, .int r_11), (4, .int 2), (3, .int r_1), (0, .ref nu), (1, .int fr), (2, .int en)]) hx hb dX2_decodeMany_148 hl (by decide) rfl (fun ls hl => ?_)
              refine lv_iload hx hb dX2_decodeMany_150 (lv_at hl 0 rfl) ?_
              refine lv_if_eq (tgt := 173) hx hb dX2_decodeMany_152 (by decide) (fun c_20 => ?_) (fun c_20 => absurd c_20 (by decide))
              refine lv_iconst (v := (-1)) hx hb dX2_decodeMany_173 (by decide) ?_
              have hP9 := hP.sub (ws' := [(nu, .inr (5, [.ref au, .int lu])), (au, .inl (cI, cap, .inl fu))]) [0, 1] rfl
              have hD9 := hD.sub (ws' := [(nu, .inr (5, [.ref au, .int lu])), (au, .inl (cI, cap, .inl fu))]) [0, 1] (by decide +kernel) rfl
              rw [hQQ]
              exact W.iret (v := (-1)) hx hb hr (fun t ht hW => ⟨⟨(-1), (-1), rfl, rfl, ⟨by rw [ht]; exact hP9, hD9, Or.inr ⟨rfl, fun l x h => by have o1 := bt_c fu en.toInt (fr.toNatClampNeg + 1); have o2 := bt_c fu en.toInt (fr.toNatClampNeg + 2); unfold DMa DM at h; omega⟩⟩⟩, hS.F ht⟩) hS.2.2 dX2_decodeMany_174
            · have tc_19 : 128 ≤ x_16.toInt := v_nlt c_19
              refine lv_iconst (v := 1) hx hb dX2_decodeMany_143 (by decide) ?_
              refine lv_goto (tgt := 148) hx hb dX2_decodeMany_144 (by decide) ?_
              refine lv_istore (lv' := [(6, .int 1), (5, .int x_16), (7, .int r_11), (4, .int 2), (3, .int r_1), (0, .ref nu), (1, .int fr), (2, .int en)]) hx hb dX2_decodeMany_148 hl (by decide) rfl (fun ls hl => ?_)
              refine lv_iload hx hb dX2_decodeMany_150 (lv_at hl 0 rfl) ?_
              refine lv_if_eq (tgt := 173) hx hb dX2_decodeMany_152 (by decide) (fun c_21 => absurd c_21 (by decide)) (fun c_21 => ?_)
              refine lv_iload hx hb dX2_decodeMany_155 (lv_at hl 1 rfl) ?_
              have hPc := hP.sub (ws' := []) [] rfl
              have hDc := hD.sub (ws' := []) [] (by decide +kernel) rfl
              have hFc := va_free (wc := []) hD hS hA [] rfl
              refine va_calli (va_runSN (As := [.int x_16]) (rest := []) ⟨hx, hb, hml, hown, hts⟩ (m_X11_isLetter l dC dI cI cS H.size x_16 ) ⟨va_cnB 1 hts gX2_decodeMany_X11_isLetter_n52 rfl rfl rfl hN52 (hts (.initialized RX11) (List.mem_of_getElem? (i := 9) rfl)) (by decide +kernel) ⟨Nat.le_of_ble_eq_true rfl, Nat.le_of_ble_eq_true rfl⟩, (hts (.static yX11_isLetter) (List.mem_of_getElem? (i := 8) rfl)), trivial⟩ ⟨fun a U g mk q => by obtain ⟨q0, q1, qP, qK, qD⟩ := q; exact ⟨q0, q1, qP, va_K.moved (u := U) (U := U.calling g mk a) (Vm.Alike.refl U.vm) qK, qD⟩, fun U hU hW => ⟨rfl, by rw [hU], by rw [hU]; exact hPc, va_K.moved hW.alike hK, hDc.weaken (fun _ _ _ _ => trivial)⟩⟩ rfl rfl hl.1 rfl (lv_room (Nat.le_of_ble_eq_true rfl)) dX2_decodeMany_157 ⟨Nat.le_of_ble_eq_true rfl, Nat.le_of_ble_eq_true rfl⟩) hS (fun q _ h => hFc q h) hFc (fun r_22 u t H1 locs ht hvm hw hB hz1 hk1 hSn => ?_)
              subst hw
              obtain ⟨hP1, hD1, hf22_0, hf22_1⟩ := hB
              rw [ht] at hP1
              obtain ⟨hPn, hDn⟩ := va_join (wr := [(nu, .inr (5, [.ref au, .int lu])), (au, .inl (cI, cap, .inl fu))]) (w1 := []) hP hD [] [0, 1] rfl rfl (by decide +kernel) (by decide +kernel) hk1 hFc hP1 hD1
              clear hP hD hS hPc hDc hFc hk1 hz1 hvm ht hP1 hD1
              generalize H1 = H at hPn hSn ⊢
              have hP : va_P (dC, dI) vwCl [(nu, .inr (5, [.ref au, .int lu])), (au, .inl (cI, cap, .inl fu))] H := hPn
              have hD : va_D A [(nu, .inr (5, [.ref au, .int lu])), (au, .inl (cI, cap, .inl fu))] := hDn
              have hS := hSn
              clear hPn hDn hSn
              refine lv_if_eq (tgt := 173) hx hb dX2_decodeMany_160 (by decide) (fun c_23 => ?_) (fun c_23 => ?_)
              · have tc_23 : r_22.toInt = 0 := v_eq c_23
                refine lv_iconst (v := (-1)) hx hb dX2_decodeMany_173 (by decide) ?_
                have hP9 := hP.sub (ws' := [(nu, .inr (5, [.ref au, .int lu])), (au, .inl (cI, cap, .inl fu))]) [0, 1] rfl
                have hD9 := hD.sub (ws' := [(nu, .inr (5, [.ref au, .int lu])), (au, .inl (cI, cap, .inl fu))]) [0, 1] (by decide +kernel) rfl
                rw [hQQ]
                exact W.iret (v := (-1)) hx hb hr (fun t ht hW => ⟨⟨(-1), (-1), rfl, rfl, ⟨by rw [ht]; exact hP9, hD9, Or.inr ⟨rfl, fun l x h => by have o1 := bt_c fu en.toInt (fr.toNatClampNeg + 1); have o2 := bt_c fu en.toInt (fr.toNatClampNeg + 2); unfold DMa DM at h; omega⟩⟩⟩, hS.F ht⟩) hS.2.2 dX2_decodeMany_174
              · have tc_23 : ¬ r_22.toInt = 0 := v_ne c_23
                refine lv_iload hx hb dX2_decodeMany_163 (lv_at hl 1 rfl) ?_
                refine lv_iload hx hb dX2_decodeMany_165 (lv_at hl 3 rfl) ?_
                have hPc := hP.sub (ws' := []) [] rfl
                have hDc := hD.sub (ws' := []) [] (by decide +kernel) rfl
                have hFc := va_free (wc := []) hD hS hA [] rfl
                refine va_calli (va_runS (As := [.int x_16, .int 2]) (rest := []) ⟨hx, hb, hml, hown, hts⟩ (f_X2_found l dC dI cI cS H.size x_16 2 (by omega) (by decide)) (va_cwS 2 hts gX2_decodeMany_X2_found rfl rfl rfl (by decide +kernel) ⟨Nat.le_of_ble_eq_true rfl, Nat.le_of_ble_eq_true rfl⟩) ⟨fun a U g mk q => by obtain ⟨q0, q1, qP, qK, qD⟩ := q; exact ⟨q0, q1, qP, va_K.moved (u := U) (U := U.calling g mk a) (Vm.Alike.refl U.vm) qK, qD⟩, fun U hU hW => ⟨rfl, by rw [hU], by rw [hU]; exact hPc, va_K.moved hW.alike hK, hDc.weaken (fun _ _ _ _ => trivial)⟩⟩ rfl rfl hl.1 rfl (lv_room (Nat.le_of_ble_eq_true rfl)) dX2_decodeMany_167 ⟨Nat.le_of_ble_eq_true rfl, Nat.le_of_ble_eq_true rfl⟩) hS (fun q _ h => hFc q h) hFc (fun r_24 u t H1 locs ht hvm hw hB hz1 hk1 hSn => ?_)
                subst hw
                obtain ⟨hP1, hD1, hf24_0⟩ := hB
                rw [ht] at hP1
                obtain ⟨hPn, hDn⟩ := va_join (wr := [(nu, .inr (5, [.ref au, .int lu])), (au, .inl (cI, cap, .inl fu))]) (w1 := []) hP hD [] [0, 1] rfl rfl (by decide +kernel) (by decide +kernel) hk1 hFc hP1 hD1
                clear hP hD hS hPc hDc hFc hk1 hz1 hvm ht hP1 hD1
                generalize H1 = H at hPn hSn ⊢
                have hP : va_P (dC, dI) vwCl [(nu, .inr (5, [.ref au, .int lu])), (au, .inl (cI, cap, .inl fu))] H := hPn
                have hD : va_D A [(nu, .inr (5, [.ref au, .int lu])), (au, .inl (cI, cap, .inl fu))] := hDn
                have hS := hSn
                clear hPn hDn hSn
                refine lv_goto (tgt := 174) hx hb dX2_decodeMany_170 (by decide) ?_
                have hP9 := hP.sub (ws' := [(nu, .inr (5, [.ref au, .int lu])), (au, .inl (cI, cap, .inl fu))]) [0, 1] rfl
                have hD9 := hD.sub (ws' := [(nu, .inr (5, [.ref au, .int lu])), (au, .inl (cI, cap, .inl fu))]) [0, 1] (by decide +kernel) rfl
                rw [hQQ]
                exact W.iret (v := r_24) hx hb hr (fun t ht hW => ⟨⟨r_24, r_24, rfl, rfl, ⟨by rw [ht]; exact hP9, hD9, Or.inl ⟨2, x_16, by unfold DMa DM; omega, by omega, by omega, by omega⟩⟩⟩, hS.F ht⟩) hS.2.2 dX2_decodeMany_174
          · have tc_13 : 191 < r_11.toInt := v_nle c_13
            refine lv_iconst (v := (-1)) hx hb dX2_decodeMany_101 (by decide) ?_
            have hP9 := hP.sub (ws' := [(nu, .inr (5, [.ref au, .int lu])), (au, .inl (cI, cap, .inl fu))]) [0, 1] rfl
            have hD9 := hD.sub (ws' := [(nu, .inr (5, [.ref au, .int lu])), (au, .inl (cI, cap, .inl fu))]) [0, 1] (by decide +kernel) rfl
            rw [hQQ]
            exact W.iret (v := (-1)) hx hb hr (fun t ht hW => ⟨⟨(-1), (-1), rfl, rfl, ⟨by rw [ht]; exact hP9, hD9, Or.inr ⟨rfl, fun l x h => by have o1 := bt_c fu en.toInt (fr.toNatClampNeg + 1); have o2 := bt_c fu en.toInt (fr.toNatClampNeg + 2); unfold DMa DM at h; omega⟩⟩⟩, hS.F ht⟩) hS.2.2 dX2_decodeMany_102
      · have tc_6 : x_5.toInt < 2 := v_nle c_6
        refine lv_iconst (v := (-1)) hx hb dX2_decodeMany_42 (by decide) ?_
        have hP9 := hP.sub (ws' := [(nu, .inr (5, [.ref au, .int lu])), (au, .inl (cI, cap, .inl fu))]) [0, 1] rfl
        have hD9 := hD.sub (ws' := [(nu, .inr (5, [.ref au, .int lu])), (au, .inl (cI, cap, .inl fu))]) [0, 1] (by decide +kernel) rfl
        rw [hQQ]
        exact W.iret (v := (-1)) hx hb hr (fun t ht hW => ⟨⟨(-1), (-1), rfl, rfl, ⟨by rw [ht]; exact hP9, hD9, Or.inr ⟨rfl, fun l x h => by have o1 := bt_c fu en.toInt (fr.toNatClampNeg + 1); have o2 := bt_c fu en.toInt (fr.toNatClampNeg + 2); unfold DMa DM at h; omega⟩⟩⟩, hS.F ht⟩) hS.2.2 dX2_decodeMany_43
  · have tc_2 : 224 ≤ r_1.toInt := v_nlt c_2
    refine lv_iconst (v := 3) hx hb dX2_decodeMany_13 (by decide) ?_
    refine lv_goto (tgt := 18) hx hb dX2_decodeMany_14 (by decide) ?_
    refine lv_istore (lv' := [(4, .int 3), (3, .int r_1), (0, .ref nu), (1, .int fr), (2, .int en)]) hx hb dX2_decodeMany_18 hl (by decide) rfl (fun ls hl => ?_)
    refine lv_iload_n hx hb dX2_decodeMany_20 rfl (lv_at hl 1 rfl) ?_
    refine lv_sipush (v := 192) hx hb dX2_decodeMany_21 (by decide) ?_
    refine lv_icmp_lt (tgt := 42) hx hb dX2_decodeMany_24 (by decide) (fun c_25 => by exfalso; have tc_25 : r_1.toInt < 192 := v_lt c_25; omega) (fun c_25 => ?_)
    have tc_25 : 192 ≤ r_1.toInt := v_nlt c_25
    refine lv_iload_n hx hb dX2_decodeMany_27 rfl (lv_at hl 1 rfl) ?_
    refine lv_sipush (v := 239) hx hb dX2_decodeMany_28 (by decide) ?_
    refine lv_icmp_gt (tgt := 42) hx hb dX2_decodeMany_31 (by decide) (fun c_26 => ?_) (fun c_26 => ?_)
    · have tc_26 : 239 < r_1.toInt := v_lt c_26
      refine lv_iconst (v := (-1)) hx hb dX2_decodeMany_42 (by decide) ?_
      have hP9 := hP.sub (ws' := [(nu, .inr (5, [.ref au, .int lu])), (au, .inl (cI, cap, .inl fu))]) [0, 1] rfl
      have hD9 := hD.sub (ws' := [(nu, .inr (5, [.ref au, .int lu])), (au, .inl (cI, cap, .inl fu))]) [0, 1] (by decide +kernel) rfl
      rw [hQQ]
      exact W.iret (v := (-1)) hx hb hr (fun t ht hW => ⟨⟨(-1), (-1), rfl, rfl, ⟨by rw [ht]; exact hP9, hD9, Or.inr ⟨rfl, fun l x h => by have o1 := bt_c fu en.toInt (fr.toNatClampNeg + 1); have o2 := bt_c fu en.toInt (fr.toNatClampNeg + 2); unfold DMa DM at h; omega⟩⟩⟩, hS.F ht⟩) hS.2.2 dX2_decodeMany_43
    · have tc_26 : r_1.toInt ≤ 239 := v_nlt c_26
      refine lv_iload hx hb dX2_decodeMany_34 (lv_at hl 0 rfl) ?_
      refine lv_iload_n hx hb dX2_decodeMany_36 rfl (lv_at hl 4 rfl) ?_
      refine lv_iload_n hx hb dX2_decodeMany_37 rfl (lv_at hl 3 rfl) ?_
      refine lv_isub hx hb dX2_decodeMany_38 ?_
      refine lv_topi (fun x_27 ex_27 => ?_)
      have tx_27 : x_27.toInt = en.toInt - fr.toInt := v_sub ex_27 (by show -2147483648 ≤ en.toInt - fr.toInt; omega) (by show en.toInt - fr.toInt < 2147483648; omega)
      refine lv_icmp_le (tgt := 44) hx hb dX2_decodeMany_39 (by decide) (fun c_28 => ?_) (fun c_28 => ?_)
      · have tc_28 : 3 ≤ x_27.toInt := v_le c_28
        refine lv_iload hx hb dX2_decodeMany_44 (lv_at hl 0 rfl) ?_
        refine lv_iconst (v := 3) hx hb dX2_decodeMany_46 (by decide) ?_
        refine lv_icmp_ne (tgt := 58) hx hb dX2_decodeMany_47 (by decide) (fun c_29 => absurd c_29 (by decide)) (fun c_29 => ?_)
        refine lv_iload_n hx hb dX2_decodeMany_50 rfl (lv_at hl 1 rfl) ?_
        refine lv_sipush (v := 224) hx hb dX2_decodeMany_51 (by decide) ?_
        refine lv_isub hx hb dX2_decodeMany_54 ?_
        refine lv_topi (fun x_30 ex_30 => ?_)
        have tx_30 : x_30.toInt = r_1.toInt - 224 := v_sub ex_30 (by show -2147483648 ≤ r_1.toInt - 224; omega) (by show r_1.toInt - 224 < 2147483648; omega)
        refine lv_goto (tgt := 63) hx hb dX2_decodeMany_55 (by decide) ?_
        refine lv_istore (lv' := [(5, .int x_30), (4, .int 3), (3, .int r_1), (0, .ref nu), (1, .int fr), (2, .int en)]) hx hb dX2_decodeMany_63 hl (by decide) rfl (fun ls hl => ?_)
        refine lv_iconst (v := 1) hx hb dX2_decodeMany_65 (by decide) ?_
        refine lv_istore (lv' := [(6, .int 1), (5, .int x_30), (4, .int 3), (3, .int r_1), (0, .ref nu), (1, .int fr), (2, .int en)]) hx hb dX2_decodeMany_66 hl (by decide) rfl (fun ls hl => ?_)
        refine lv_iload hx hb dX2_decodeMany_68 (lv_at hl 0 rfl) ?_
        refine lv_iload hx hb dX2_decodeMany_70 (lv_at hl 2 rfl) ?_
        refine lv_icmp_ge (tgt := 123) hx hb dX2_decodeMany_72 (by decide) (fun c_31 => absurd c_31 (by decide)) (fun c_31 => ?_)
        refine lv_aload_n hx hb dX2_decodeMany_75 rfl (lv_at hl 4 rfl) ?_
        refine lv_iload_n hx hb dX2_decodeMany_76 rfl (lv_at hl 5 rfl) ?_
        refine lv_iload hx hb dX2_decodeMany_77 (lv_at hl 0 rfl) ?_
        refine lv_iadd hx hb dX2_decodeMany_79 ?_
        refine lv_topi (fun x_32 ex_32 => ?_)
        have tx_32 : x_32.toInt = fr.toInt + 1 := v_add ex_32 (by show -2147483648 ≤ fr.toInt + 1; omega) (by show fr.toInt + 1 < 2147483648; omega)
        have hPc := hP.sub (ws' := [(nu, .inr (5, [.ref au, .int lu])), (au, .inl (cI, cap, .inl fu))]) [0, 1] rfl
        have hDc := hD.sub (ws' := [(nu, .inr (5, [.ref au, .int lu])), (au, .inl (cI, cap, .inl fu))]) [0, 1] (by decide +kernel) rfl
        have hFc := va_free (wc := [(nu, .inr (5, [.ref au, .int lu])), (au, .inl (cI, cap, .inl fu))]) hD hS hA [0, 1] rfl
        refine va_calli (va_runV (As := [.int x_32]) (rest := []) ⟨hx, hb, hml, hown, hts⟩ (m_X5_get l dC dI cI cS H.size nu au cap lu fu x_32 (g_lu) (by omega)) (cwV 1 hts gX2_decodeMany_X5_get rfl rfl rfl (by decide +kernel) ⟨Nat.le_of_ble_eq_true rfl, Nat.le_of_ble_eq_true rfl⟩) ⟨fun a U g mk q => by obtain ⟨q0, q1, qP, qK, qD⟩ := q; exact ⟨q0, q1, qP, va_K.moved (u := U) (U := U.calling g mk a) (Vm.Alike.refl U.vm) qK, qD⟩, va_recv hK hPc (ci := 5) (q0 := 0) rfl rfl, fun U hU hW => ⟨rfl, by rw [hU], by rw [hU]; exact hPc, va_K.moved hW.alike hK, hDc.weaken (fun _ _ _ _ => trivial)⟩⟩ rfl rfl hl.1 rfl (lv_room (Nat.le_of_ble_eq_true rfl)) dX2_decodeMany_80 ⟨Nat.le_of_ble_eq_true rfl, Nat.le_of_ble_eq_true rfl⟩) hS (fun q _ h => hFc q h) hFc (fun r_33 u t H1 locs ht hvm hw hB hz1 hk1 hSn => ?_)
        subst hw
        obtain ⟨hP1, hD1, hf33_0⟩ := hB
        rw [ht] at hP1
        obtain ⟨hPn, hDn⟩ := va_join (wr := []) (w1 := [(nu, .inr (5, [.ref au, .int lu])), (au, .inl (cI, cap, .inl fu))]) hP hD [0, 1] [] rfl rfl (by decide +kernel) (by decide +kernel) hk1 hFc hP1 hD1
        clear hP hD hS hPc hDc hFc hk1 hz1 hvm ht hP1 hD1
        generalize H1 = H at hPn hSn ⊢
        have hP : va_P (dC, dI) vwCl [(nu, .inr (5, [.ref au, .int lu])), (au, .inl (cI, cap, .inl fu))] H := hPn
        have hD : va_D A [(nu, .inr (5, [.ref au, .int lu])), (au, .inl (cI, cap, .inl fu))] := hDn
        have hS := hSn
        clear hPn hDn hSn
        have hb33 : r_33.toInt = bt fu en.toInt (fr.toNatClampNeg + 1) := get_bt (k := fr.toNatClampNeg + 1) hf33_0 (by omega) (by omega) hen
        refine lv_istore (lv' := [(7, .int r_33), (6, .int 1), (5, .int x_30), (4, .int 3), (3, .int r_1), (0, .ref nu), (1, .int fr), (2, .int en)]) hx hb dX2_decodeMany_83 hl (by decide) rfl (fun ls hl => ?_)
        refine lv_iload hx hb dX2_decodeMany_85 (lv_at hl 0 rfl) ?_
        refine lv_sipush (v := 128) hx hb dX2_decodeMany_87 (by decide) ?_
        refine lv_icmp_lt (tgt := 101) hx hb dX2_decodeMany_90 (by decide) (fun c_34 => ?_) (fun c_34 => ?_)
        · have tc_34 : r_33.toInt < 128 := v_lt c_34
          refine lv_iconst (v := (-1)) hx hb dX2_decodeMany_101 (by decide) ?_
          have hP9 := hP.sub (ws' := [(nu, .inr (5, [.ref au, .int lu])), (au, .inl (cI, cap, .inl fu))]) [0, 1] rfl
          have hD9 := hD.sub (ws' := [(nu, .inr (5, [.ref au, .int lu])), (au, .inl (cI, cap, .inl fu))]) [0, 1] (by decide +kernel) rfl
          rw [hQQ]
          exact W.iret (v := (-1)) hx hb hr (fun t ht hW => ⟨⟨(-1), (-1), rfl, rfl, ⟨by rw [ht]; exact hP9, hD9, Or.inr ⟨rfl, fun l x h => by have o1 := bt_c fu en.toInt (fr.toNatClampNeg + 1); have o2 := bt_c fu en.toInt (fr.toNatClampNeg + 2); unfold DMa DM at h; omega⟩⟩⟩, hS.F ht⟩) hS.2.2 dX2_decodeMany_102
        · have tc_34 : 128 ≤ r_33.toInt := v_nlt c_34
          refine lv_iload hx hb dX2_decodeMany_93 (lv_at hl 0 rfl) ?_
          refine lv_sipush (v := 191) hx hb dX2_decodeMany_95 (by decide) ?_
          refine lv_icmp_le (tgt := 103) hx hb dX2_decodeMany_98 (by decide) (fun c_35 => ?_) (fun c_35 => ?_)
          · have tc_35 : r_33.toInt ≤ 191 := v_le c_35
            refine lv_iload hx hb dX2_decodeMany_103 (lv_at hl 2 rfl) ?_
            refine lv_bipush (v := 64) hx hb dX2_decodeMany_105 (by decide) ?_
            refine lv_imul hx hb dX2_decodeMany_107 ?_
            refine lv_topi (fun x_36 ex_36 => ?_)
            have tx_36 : x_36.toInt = x_30.toInt * 64 := v_mul ex_36 (by show -2147483648 ≤ x_30.toInt * 64; omega) (by show x_30.toInt * 64 < 2147483648; omega)
            refine lv_iload hx hb dX2_decodeMany_108 (lv_at hl 0 rfl) ?_
            refine lv_iadd hx hb dX2_decodeMany_110 ?_
            refine lv_topi (fun x_37 ex_37 => ?_)
            have tx_37 : x_37.toInt = x_36.toInt + r_33.toInt := v_add ex_37 (by show -2147483648 ≤ x_36.toInt + r_33.toInt; omega) (by show x_36.toInt + r_33.toInt < 2147483648; omega)
            refine lv_sipush (v := 128) hx hb dX2_decodeMany_111 (by decide) ?_
            refine lv_isub hx hb dX2_decodeMany_114 ?_
            refine lv_topi (fun x_38 ex_38 => ?_)
            have tx_38 : x_38.toInt = x_37.toInt - 128 := v_sub ex_38 (by show -2147483648 ≤ x_37.toInt - 128; omega) (by show x_37.toInt - 128 < 2147483648; omega)
            refine lv_istore (lv' := [(5, .int x_38), (7, .int r_33), (6, .int 1), (4, .int 3), (3, .int r_1), (0, .ref nu), (1, .int fr), (2, .int en)]) hx hb dX2_decodeMany_115 hl (by decide) rfl (fun ls hl => ?_)
            refine lv_iinc (v := 2) (lv' := [(6, .int 2), (5, .int x_38), (7, .int r_33), (4, .int 3), (3, .int r_1), (0, .ref nu), (1, .int fr), (2, .int en)]) hx hb dX2_decodeMany_117 hl (k := 2) rfl (by decide) (by decide) rfl (fun ls hl => ?_)
            refine lv_goto (tgt := 68) hx hb dX2_decodeMany_120 (by decide) ?_
            refine lv_iload hx hb dX2_decodeMany_68 (lv_at hl 0 rfl) ?_
            refine lv_iload hx hb dX2_decodeMany_70 (lv_at hl 3 rfl) ?_
            refine lv_icmp_ge (tgt := 123) hx hb dX2_decodeMany_72 (by decide) (fun c_39 => absurd c_39 (by decide)) (fun c_39 => ?_)
            refine lv_aload_n hx hb dX2_decodeMany_75 rfl (lv_at hl 5 rfl) ?_
            refine lv_iload_n hx hb dX2_decodeMany_76 rfl (lv_at hl 6 rfl) ?_
            refine lv_iload hx hb dX2_decodeMany_77 (lv_at hl 0 rfl) ?_
            refine lv_iadd hx hb dX2_decodeMany_79 ?_
            refine lv_topi (fun x_40 ex_40 => ?_)
            have tx_40 : x_40.toInt = fr.toInt + 2 := v_add ex_40 (by show -2147483648 ≤ fr.toInt + 2; omega) (by show fr.toInt + 2 < 2147483648; omega)
            have hPc := hP.sub (ws' := [(nu, .inr (5, [.ref au, .int lu])), (au, .inl (cI, cap, .inl fu))]) [0, 1] rfl
            have hDc := hD.sub (ws' := [(nu, .inr (5, [.ref au, .int lu])), (au, .inl (cI, cap, .inl fu))]) [0, 1] (by decide +kernel) rfl
            have hFc := va_free (wc := [(nu, .inr (5, [.ref au, .int lu])), (au, .inl (cI, cap, .inl fu))]) hD hS hA [0, 1] rfl
            refine va_calli (va_runV (As := [.int x_40]) (rest := []) ⟨hx, hb, hml, hown, hts⟩ (m_X5_get l dC dI cI cS H.size nu au cap lu fu x_40 (g_lu) (by omega)) (cwV 1 hts gX2_decodeMany_X5_get rfl rfl rfl (by decide +kernel) ⟨Nat.le_of_ble_eq_true rfl, Nat.le_of_ble_eq_true rfl⟩) ⟨fun a U g mk q => by obtain ⟨q0, q1, qP, qK, qD⟩ := q; exact ⟨q0, q1, qP, va_K.moved (u := U) (U := U.calling g mk a) (Vm.Alike.refl U.vm) qK, qD⟩, va_recv hK hPc (ci := 5) (q0 := 0) rfl rfl, fun U hU hW => ⟨rfl, by rw [hU], by rw [hU]; exact hPc, va_K.moved hW.alike hK, hDc.weaken (fun _ _ _ _ => trivial)⟩⟩ rfl rfl hl.1 rfl (lv_room (Nat.le_of_ble_eq_true rfl)) dX2_decodeMany_80 ⟨Nat.le_of_ble_eq_true rfl, Nat.le_of_ble_eq_true rfl⟩) hS (fun q _ h => hFc q h) hFc (fun r_41 u t H1 locs ht hvm hw hB hz1 hk1 hSn => ?_)
            subst hw
            obtain ⟨hP1, hD1, hf41_0⟩ := hB
            rw [ht] at hP1
            obtain ⟨hPn, hDn⟩ := va_join (wr := []) (w1 := [(nu, .inr (5, [.ref au, .int lu])), (au, .inl (cI, cap, .inl fu))]) hP hD [0, 1] [] rfl rfl (by decide +kernel) (by decide +kernel) hk1 hFc hP1 hD1
            clear hP hD hS hPc hDc hFc hk1 hz1 hvm ht hP1 hD1
            generalize H1 = H at hPn hSn ⊢
            have hP : va_P (dC, dI) vwCl [(nu, .inr (5, [.ref au, .int lu])), (au, .inl (cI, cap, .inl fu))] H := hPn
            have hD : va_D A [(nu, .inr (5, [.ref au, .int lu])), (au, .inl (cI, cap, .inl fu))] := hDn
            have hS := hSn
            clear hPn hDn hSn
            have hb41 : r_41.toInt = bt fu en.toInt (fr.toNatClampNeg + 2) := get_bt (k := fr.toNatClampNeg + 2) hf41_0 (by omega) (by omega) hen
            refine lv_istore (lv' := [(7, .int r_41), (6, .int 2), (5, .int x_38), (4, .int 3), (3, .int r_1), (0, .ref nu), (1, .int fr), (2, .int en)]) hx hb dX2_decodeMany_83 hl (by decide) rfl (fun ls hl => ?_)
            refine lv_iload hx hb dX2_decodeMany_85 (lv_at hl 0 rfl) ?_
            refine lv_sipush (v := 128) hx hb dX2_decodeMany_87 (by decide) ?_
            refine lv_icmp_lt (tgt := 101) hx hb dX2_decodeMany_90 (by decide) (fun c_42 => ?_) (fun c_42 => ?_)
            · have tc_42 : r_41.toInt < 128 := v_lt c_42
              refine lv_iconst (v := (-1)) hx hb dX2_decodeMany_101 (by decide) ?_
              have hP9 := hP.sub (ws' := [(nu, .inr (5, [.ref au, .int lu])), (au, .inl (cI, cap, .inl fu))]) [0, 1] rfl
              have hD9 := hD.sub (ws' := [(nu, .inr (5, [.ref au, .int lu])), (au, .inl (cI, cap, .inl fu))]) [0, 1] (by decide +kernel) rfl
              rw [hQQ]
              exact W.iret (v := (-1)) hx hb hr (fun t ht hW => ⟨⟨(-1), (-1), rfl, rfl, ⟨by rw [ht]; exact hP9, hD9, Or.inr ⟨rfl, fun l x h => by have o1 := bt_c fu en.toInt (fr.toNatClampNeg + 1); have o2 := bt_c fu en.toInt (fr.toNatClampNeg + 2); unfold DMa DM at h; omega⟩⟩⟩, hS.F ht⟩) hS.2.2 dX2_decodeMany_102
            · have tc_42 : 128 ≤ r_41.toInt := v_nlt c_42
              refine lv_iload hx hb dX2_decodeMany_93 (lv_at hl 0 rfl) ?_
              refine lv_sipush (v := 191) hx hb dX2_decodeMany_95 (by decide) ?_
              refine lv_icmp_le (tgt := 103) hx hb dX2_decodeMany_98 (by decide) (fun c_43 => ?_) (fun c_43 => ?_)
              · have tc_43 : r_41.toInt ≤ 191 := v_le c_43
                refine lv_iload hx hb dX2_decodeMany_103 (lv_at hl 2 rfl) ?_
                refine lv_bipush (v := 64) hx hb dX2_decodeMany_105 (by decide) ?_
                refine lv_imul hx hb dX2_decodeMany_107 ?_
                refine lv_topi (fun x_44 ex_44 => ?_)
                have tx_44 : x_44.toInt = x_38.toInt * 64 := v_mul ex_44 (by show -2147483648 ≤ x_38.toInt * 64; omega) (by show x_38.toInt * 64 < 2147483648; omega)
                refine lv_iload hx hb dX2_decodeMany_108 (lv_at hl 0 rfl) ?_
                refine lv_iadd hx hb dX2_decodeMany_110 ?_
                refine lv_topi (fun x_45 ex_45 => ?_)
                have tx_45 : x_45.toInt = x_44.toInt + r_41.toInt := v_add ex_45 (by show -2147483648 ≤ x_44.toInt + r_41.toInt; omega) (by show x_44.toInt + r_41.toInt < 2147483648; omega)
                refine lv_sipush (v := 128) hx hb dX2_decodeMany_111 (by decide) ?_
                refine lv_isub hx hb dX2_decodeMany_114 ?_
                refine lv_topi (fun x_46 ex_46 => ?_)
                have tx_46 : x_46.toInt = x_45.toInt - 128 := v_sub ex_46 (by show -2147483648 ≤ x_45.toInt - 128; omega) (by show x_45.toInt - 128 < 2147483648; omega)
                refine lv_istore (lv' := [(5, .int x_46), (7, .int r_41), (6, .int 2), (4, .int 3), (3, .int r_1), (0, .ref nu), (1, .int fr), (2, .int en)]) hx hb dX2_decodeMany_115 hl (by decide) rfl (fun ls hl => ?_)
                refine lv_iinc (v := 3) (lv' := [(6, .int 3), (5, .int x_46), (7, .int r_41), (4, .int 3), (3, .int r_1), (0, .ref nu), (1, .int fr), (2, .int en)]) hx hb dX2_decodeMany_117 hl (k := 2) rfl (by decide) (by decide) rfl (fun ls hl => ?_)
                refine lv_goto (tgt := 68) hx hb dX2_decodeMany_120 (by decide) ?_
                refine lv_iload hx hb dX2_decodeMany_68 (lv_at hl 0 rfl) ?_
                refine lv_iload hx hb dX2_decodeMany_70 (lv_at hl 3 rfl) ?_
                refine lv_icmp_ge (tgt := 123) hx hb dX2_decodeMany_72 (by decide) (fun c_47 => ?_) (fun c_47 => absurd c_47 (by decide))
                refine lv_iload hx hb dX2_decodeMany_123 (lv_at hl 1 rfl) ?_
                refine lv_iload hx hb dX2_decodeMany_125 (lv_at hl 3 rfl) ?_
                refine lv_iconst (v := 3) hx hb dX2_decodeMany_127 (by decide) ?_
                refine lv_icmp_ne (tgt := 137) hx hb dX2_decodeMany_128 (by decide) (fun c_48 => absurd c_48 (by decide)) (fun c_48 => ?_)
                refine lv_sipush (v := 2048) hx hb dX2_decodeMany_131 (by decide) ?_
                refine lv_goto (tgt := 140) hx hb dX2_decodeMany_134 (by decide) ?_
                refine lv_icmp_lt (tgt := 147) hx hb dX2_decodeMany_140 (by decide) (fun c_49 => ?_) (fun c_49 => ?_)
                · have tc_49 : x_46.toInt < 2048 := v_lt c_49
                  refine lv_iconst (v := 0) hx hb dX2_decodeMany_147 (by decide) ?_
                  refine lv_istore (lv' := [(6, .int 0), (5, .int x_46), (7, .int r_41), (4, .int 3), (3, .int r_1), (0, .ref nu), (1, .int fr), (2, .int en)]) hx hb dX2_decodeMany_148 hl (by decide) rfl (fun ls hl => ?_)
                  refine lv_iload hx hb dX2_decodeMany_150 (lv_at hl 0 rfl) ?_
                  refine lv_if_eq (tgt := 173) hx hb dX2_decodeMany_152 (by decide) (fun c_50 => ?_) (fun c_50 => absurd c_50 (by decide))
                  refine lv_iconst (v := (-1)) hx hb dX2_decodeMany_173 (by decide) ?_
                  have hP9 := hP.sub (ws' := [(nu, .inr (5, [.ref au, .int lu])), (au, .inl (cI, cap, .inl fu))]) [0, 1] rfl
                  have hD9 := hD.sub (ws' := [(nu, .inr (5, [.ref au, .int lu])), (au, .inl (cI, cap, .inl fu))]) [0, 1] (by decide +kernel) rfl
                  rw [hQQ]
                  exact W.iret (v := (-1)) hx hb hr (fun t ht hW => ⟨⟨(-1), (-1), rfl, rfl, ⟨by rw [ht]; exact hP9, hD9, Or.inr ⟨rfl, fun l x h => by have o1 := bt_c fu en.toInt (fr.toNatClampNeg + 1); have o2 := bt_c fu en.toInt (fr.toNatClampNeg + 2); unfold DMa DM at h; omega⟩⟩⟩, hS.F ht⟩) hS.2.2 dX2_decodeMany_174
                · have tc_49 : 2048 ≤ x_46.toInt := v_nlt c_49
                  refine lv_iconst (v := 1) hx hb dX2_decodeMany_143 (by decide) ?_
                  refine lv_goto (tgt := 148) hx hb dX2_decodeMany_144 (by decide) ?_
                  refine lv_istore (lv' := [(6, .int 1), (5, .int x_46), (7, .int r_41), (4, .int 3), (3, .int r_1), (0, .ref nu), (1, .int fr), (2, .int en)]) hx hb dX2_decodeMany_148 hl (by decide) rfl (fun ls hl => ?_)
                  refine lv_iload hx hb dX2_decodeMany_150 (lv_at hl 0 rfl) ?_
                  refine lv_if_eq (tgt := 173) hx hb dX2_decodeMany_152 (by decide) (fun c_51 => absurd c_51 (by decide)) (fun c_51 => ?_)
                  refine lv_iload hx hb dX2_decodeMany_155 (lv_at hl 1 rfl) ?_
                  have hPc := hP.sub (ws' := []) [] rfl
                  have hDc := hD.sub (ws' := []) [] (by decide +kernel) rfl
                  have hFc := va_free (wc := []) hD hS hA [] rfl
                  refine va_calli (va_runSN (As := [.int x_46]) (rest := []) ⟨hx, hb, hml, hown, hts⟩ (m_X11_isLetter l dC dI cI cS H.size x_46 ) ⟨va_cnB 1 hts gX2_decodeMany_X11_isLetter_n52 rfl rfl rfl hN52 (hts (.initialized RX11) (List.mem_of_getElem? (i := 9) rfl)) (by decide +kernel) ⟨Nat.le_of_ble_eq_true rfl, Nat.le_of_ble_eq_true rfl⟩, (hts (.static yX11_isLetter) (List.mem_of_getElem? (i := 8) rfl)), trivial⟩ ⟨fun a U g mk q => by obtain ⟨q0, q1, qP, qK, qD⟩ := q; exact ⟨q0, q1, qP, va_K.moved (u := U) (U := U.calling g mk a) (Vm.Alike.refl U.vm) qK, qD⟩, fun U hU hW => ⟨rfl, by rw [hU], by rw [hU]; exact hPc, va_K.moved hW.alike hK, hDc.weaken (fun _ _ _ _ => trivial)⟩⟩ rfl rfl hl.1 rfl (lv_room (Nat.le_of_ble_eq_true rfl)) dX2_decodeMany_157 ⟨Nat.le_of_ble_eq_true rfl, Nat.le_of_ble_eq_true rfl⟩) hS (fun q _ h => hFc q h) hFc (fun r_52 u t H1 locs ht hvm hw hB hz1 hk1 hSn => ?_)
                  subst hw
                  obtain ⟨hP1, hD1, hf52_0, hf52_1⟩ := hB
                  rw [ht] at hP1
                  obtain ⟨hPn, hDn⟩ := va_join (wr := [(nu, .inr (5, [.ref au, .int lu])), (au, .inl (cI, cap, .inl fu))]) (w1 := []) hP hD [] [0, 1] rfl rfl (by decide +kernel) (by decide +kernel) hk1 hFc hP1 hD1
                  clear hP hD hS hPc hDc hFc hk1 hz1 hvm ht hP1 hD1
                  generalize H1 = H at hPn hSn ⊢
                  have hP : va_P (dC, dI) vwCl [(nu, .inr (5, [.ref au, .int lu])), (au, .inl (cI, cap, .inl fu))] H := hPn
                  have hD : va_D A [(nu, .inr (5, [.ref au, .int lu])), (au, .inl (cI, cap, .inl fu))] := hDn
                  have hS := hSn
                  clear hPn hDn hSn
                  refine lv_if_eq (tgt := 173) hx hb dX2_decodeMany_160 (by decide) (fun c_53 => ?_) (fun c_53 => ?_)
                  · have tc_53 : r_52.toInt = 0 := v_eq c_53
                    refine lv_iconst (v := (-1)) hx hb dX2_decodeMany_173 (by decide) ?_
                    have hP9 := hP.sub (ws' := [(nu, .inr (5, [.ref au, .int lu])), (au, .inl (cI, cap, .inl fu))]) [0, 1] rfl
                    have hD9 := hD.sub (ws' := [(nu, .inr (5, [.ref au, .int lu])), (au, .inl (cI, cap, .inl fu))]) [0, 1] (by decide +kernel) rfl
                    rw [hQQ]
                    exact W.iret (v := (-1)) hx hb hr (fun t ht hW => ⟨⟨(-1), (-1), rfl, rfl, ⟨by rw [ht]; exact hP9, hD9, Or.inr ⟨rfl, fun l x h => by have o1 := bt_c fu en.toInt (fr.toNatClampNeg + 1); have o2 := bt_c fu en.toInt (fr.toNatClampNeg + 2); unfold DMa DM at h; omega⟩⟩⟩, hS.F ht⟩) hS.2.2 dX2_decodeMany_174
                  · have tc_53 : ¬ r_52.toInt = 0 := v_ne c_53
                    refine lv_iload hx hb dX2_decodeMany_163 (lv_at hl 1 rfl) ?_
                    refine lv_iload hx hb dX2_decodeMany_165 (lv_at hl 3 rfl) ?_
                    have hPc := hP.sub (ws' := []) [] rfl
                    have hDc := hD.sub (ws' := []) [] (by decide +kernel) rfl
                    have hFc := va_free (wc := []) hD hS hA [] rfl
                    refine va_calli (va_runS (As := [.int x_46, .int 3]) (rest := []) ⟨hx, hb, hml, hown, hts⟩ (f_X2_found l dC dI cI cS H.size x_46 3 (by omega) (by decide)) (va_cwS 2 hts gX2_decodeMany_X2_found rfl rfl rfl (by decide +kernel) ⟨Nat.le_of_ble_eq_true rfl, Nat.le_of_ble_eq_true rfl⟩) ⟨fun a U g mk q => by obtain ⟨q0, q1, qP, qK, qD⟩ := q; exact ⟨q0, q1, qP, va_K.moved (u := U) (U := U.calling g mk a) (Vm.Alike.refl U.vm) qK, qD⟩, fun U hU hW => ⟨rfl, by rw [hU], by rw [hU]; exact hPc, va_K.moved hW.alike hK, hDc.weaken (fun _ _ _ _ => trivial)⟩⟩ rfl rfl hl.1 rfl (lv_room (Nat.le_of_ble_eq_true rfl)) dX2_decodeMany_167 ⟨Nat.le_of_ble_eq_true rfl, Nat.le_of_ble_eq_true rfl⟩) hS (fun q _ h => hFc q h) hFc (fun r_54 u t H1 locs ht hvm hw hB hz1 hk1 hSn => ?_)
                    subst hw
                    obtain ⟨hP1, hD1, hf54_0⟩ := hB
                    rw [ht] at hP1
                    obtain ⟨hPn, hDn⟩ := va_join (wr := [(nu, .inr (5, [.ref au, .int lu])), (au, .inl (cI, cap, .inl fu))]) (w1 := []) hP hD [] [0, 1] rfl rfl (by decide +kernel) (by decide +kernel) hk1 hFc hP1 hD1
                    clear hP hD hS hPc hDc hFc hk1 hz1 hvm ht hP1 hD1
                    generalize H1 = H at hPn hSn ⊢
                    have hP : va_P (dC, dI) vwCl [(nu, .inr (5, [.ref au, .int lu])), (au, .inl (cI, cap, .inl fu))] H := hPn
                    have hD : va_D A [(nu, .inr (5, [.ref au, .int lu])), (au, .inl (cI, cap, .inl fu))] := hDn
                    have hS := hSn
                    clear hPn hDn hSn
                    refine lv_goto (tgt := 174) hx hb dX2_decodeMany_170 (by decide) ?_
                    have hP9 := hP.sub (ws' := [(nu, .inr (5, [.ref au, .int lu])), (au, .inl (cI, cap, .inl fu))]) [0, 1] rfl
                    have hD9 := hD.sub (ws' := [(nu, .inr (5, [.ref au, .int lu])), (au, .inl (cI, cap, .inl fu))]) [0, 1] (by decide +kernel) rfl
                    rw [hQQ]
                    exact W.iret (v := r_54) hx hb hr (fun t ht hW => ⟨⟨r_54, r_54, rfl, rfl, ⟨by rw [ht]; exact hP9, hD9, Or.inl ⟨3, x_46, by unfold DMa DM; omega, by omega, by omega, by omega⟩⟩⟩, hS.F ht⟩) hS.2.2 dX2_decodeMany_174
              · have tc_43 : 191 < r_41.toInt := v_nle c_43
                refine lv_iconst (v := (-1)) hx hb dX2_decodeMany_101 (by decide) ?_
                have hP9 := hP.sub (ws' := [(nu, .inr (5, [.ref au, .int lu])), (au, .inl (cI, cap, .inl fu))]) [0, 1] rfl
                have hD9 := hD.sub (ws' := [(nu, .inr (5, [.ref au, .int lu])), (au, .inl (cI, cap, .inl fu))]) [0, 1] (by decide +kernel) rfl
                rw [hQQ]
                exact W.iret (v := (-1)) hx hb hr (fun t ht hW => ⟨⟨(-1), (-1), rfl, rfl, ⟨by rw [ht]; exact hP9, hD9, Or.inr ⟨rfl, fun l x h => by have o1 := bt_c fu en.toInt (fr.toNatClampNeg + 1); have o2 := bt_c fu en.toInt (fr.toNatClampNeg + 2); unfold DMa DM at h; omega⟩⟩⟩, hS.F ht⟩) hS.2.2 dX2_decodeMany_102
          · have tc_35 : 191 < r_33.toInt := v_nle c_35
            refine lv_iconst (v := (-1)) hx hb dX2_decodeMany_101 (by decide) ?_
            have hP9 := hP.sub (ws' := [(nu, .inr (5, [.ref au, .int lu])), (au, .inl (cI, cap, .inl fu))]) [0, 1] rfl
            have hD9 := hD.sub (ws' := [(nu, .inr (5, [.ref au, .int lu])), (au, .inl (cI, cap, .inl fu))]) [0, 1] (by decide +kernel) rfl
            rw [hQQ]
            exact W.iret (v := (-1)) hx hb hr (fun t ht hW => ⟨⟨(-1), (-1), rfl, rfl, ⟨by rw [ht]; exact hP9, hD9, Or.inr ⟨rfl, fun l x h => by have o1 := bt_c fu en.toInt (fr.toNatClampNeg + 1); have o2 := bt_c fu en.toInt (fr.toNatClampNeg + 2); unfold DMa DM at h; omega⟩⟩⟩, hS.F ht⟩) hS.2.2 dX2_decodeMany_102
      · have tc_28 : x_27.toInt < 3 := v_nle c_28
        refine lv_iconst (v := (-1)) hx hb dX2_decodeMany_42 (by decide) ?_
        have hP9 := hP.sub (ws' := [(nu, .inr (5, [.ref au, .int lu])), (au, .inl (cI, cap, .inl fu))]) [0, 1] rfl
        have hD9 := hD.sub (ws' := [(nu, .inr (5, [.ref au, .int lu])), (au, .inl (cI, cap, .inl fu))]) [0, 1] (by decide +kernel) rfl
        rw [hQQ]
        exact W.iret (v := (-1)) hx hb hr (fun t ht hW => ⟨⟨(-1), (-1), rfl, rfl, ⟨by rw [ht]; exact hP9, hD9, Or.inr ⟨rfl, fun l x h => by have o1 := bt_c fu en.toInt (fr.toNatClampNeg + 1); have o2 := bt_c fu en.toInt (fr.toNatClampNeg + 2); unfold DMa DM at h; omega⟩⟩⟩, hS.F ht⟩) hS.2.2 dX2_decodeMany_43

set_option maxHeartbeats 40000000 in
set_option maxRecDepth 100000 in
theorem f_X2_decodeNumber (l : Launch) (dC : Nat → ClassId) (dI : Nat → Nat → Nat) (cI cS : ClassId) (sz : Nat) (nu : Nat) (au : Nat) (cap : Nat) (lu : Int32) (fu : Nat → Int32) (fr : Int32) (en : Int32) (g_lu : 0 ≤ lu.toInt ∧ lu.toInt ≤ (cap : Int)) (g_fr : 0 ≤ fr.toInt ∧ fr.toInt ≤ 2400) (hcap : cap ≤ 2400) (hen : en.toInt ≤ lu.toInt) (hfe : fr.toInt < en.toInt) : Met l yX2_decodeNumber wsX2_decodeNumber ({ frames := 1, cells := 0, slots := 0, locals := 21 } : Room) (va_Pc [.ref nu, .int fr, .int en] (fun U => U.heap.size = sz ∧ va_P (dC, dI) vwCl [(nu, .inr (5, [.ref au, .int lu])), (au, .inl (cI, cap, .inl fu))] U.heap ∧ va_K (dC, dI) vwCl [(cI, .int), (cS, .short)] U ∧ va_D (fun _ => True) [(nu, .inr (5, [.ref au, .int lu])), (au, .inl (cI, cap, .inl fu))] ∧ va_Nw (.methodLinkNest RX2 52 yX11_isLetter "TextMender") U)) (va_Qi (fun (r : Int32) (u : Int32) => r = u) (fun (r : Int32) t => va_P (dC, dI) vwCl [(nu, .inr (5, [.ref au, .int lu])), (au, .inl (cI, cap, .inl fu))] t.heap ∧ va_D (va_A [(nu, .inr (5, [.ref au, .int lu])), (au, .inl (cI, cap, .inl fu))] sz) [(nu, .inr (5, [.ref au, .int lu])), (au, .inl (cI, cap, .inl fu))] ∧ (F_dn r fu en.toInt fr.toNatClampNeg)) (va_A [(nu, .inr (5, [.ref au, .int lu])), (au, .inl (cI, cap, .inl fu))] sz)) 0 0 (va_A [(nu, .inr (5, [.ref au, .int lu])), (au, .inl (cI, cap, .inl fu))] sz) := by
  refine Met.ofW (cc := cX2_decodeNumber) (maxL := 7) (ret := (some .int)) (by decide) rfl ?_
  intro p e s m args below meth c s₁ B hml hv
  obtain ⟨rfl, hsz, hP, hK, hD0, hN52⟩ := hv
  have hx := B.exec
  have hb := B.bytes
  have hr := B.returns
  have hts := atoms_spec (ws := wsX2_decodeNumber) B.pre
  have hown : s.vm.findClass RX2 = some m.cls := findClass_of_methodNamed B.named
  have hlocks := B.notSynchronized
  subst hsz
  have hD := hD0.self (sz := s.heap.size)
  generalize hAe : va_A [(nu, .inr (5, [.ref au, .int lu])), (au, .inl (cI, cap, .inl fu))] s.heap.size = A at hD ⊢
  have hA : ∀ q : Nat, s.heap.size ≤ q → A q := fun q h => by rw [← hAe]; exact Or.inr h
  have hS : va_S A s.heap s.heap [] := va_S.rf
  have hP : va_P (dC, dI) vwCl [(nu, .inr (5, [.ref au, .int lu])), (au, .inl (cI, cap, .inl fu))] s.heap := hP
  have hl := lv_entry ([.ref nu, .int fr, .int en]) (n := 7) (Nat.le_of_ble_eq_true rfl)
  rw [lg_entry_eq]
  generalize (lg_sl ([.ref nu, .int fr, .int en]) ++ List.replicate (7 - (lg_sl ([.ref nu, .int fr, .int en])).length) Slot.unset).toArray = ls at hl ⊢
  have hl : lv_has ls 7 [(0, .ref nu), (1, .int fr), (2, .int en)] := hl
  obtain ⟨QQ, hQQ⟩ : ∃ QQ : Array Value → State → Outcome → State → Prop, QQ = va_Qi (fun (r : Int32) (u : Int32) => r = u) (fun (r : Int32) t => va_P (dC, dI) vwCl [(nu, .inr (5, [.ref au, .int lu])), (au, .inl (cI, cap, .inl fu))] t.heap ∧ va_D A [(nu, .inr (5, [.ref au, .int lu])), (au, .inl (cI, cap, .inl fu))] ∧ (F_dn r fu en.toInt fr.toNatClampNeg)) A := ⟨_, rfl⟩
  rw [← hQQ]
  have c0 := v_clamp (x := fr) (by omega)
  have z0 : (0 : Int32).toInt = 0 := rfl
  have z1 : (1 : Int32).toInt = 1 := rfl
  have z2 : (2 : Int32).toInt = 2 := rfl
  have z3 : (3 : Int32).toInt = 3 := rfl
  refine lv_aload_n hx hb dX2_decodeNumber_0 rfl (lv_at hl 0 rfl) ?_
  refine lv_iload_n hx hb dX2_decodeNumber_1 rfl (lv_at hl 1 rfl) ?_
  have hPc := hP.sub (ws' := [(nu, .inr (5, [.ref au, .int lu])), (au, .inl (cI, cap, .inl fu))]) [0, 1] rfl
  have hDc := hD.sub (ws' := [(nu, .inr (5, [.ref au, .int lu])), (au, .inl (cI, cap, .inl fu))]) [0, 1] (by decide +kernel) rfl
  have hFc := va_free (wc := [(nu, .inr (5, [.ref au, .int lu])), (au, .inl (cI, cap, .inl fu))]) hD hS hA [0, 1] rfl
  refine va_calli (va_runV (As := [.int fr]) (rest := []) ⟨hx, hb, hml, hown, hts⟩ (m_X5_get l dC dI cI cS s.heap.size nu au cap lu fu fr (g_lu) (by omega)) (cwV 1 hts gX2_decodeNumber_X5_get rfl rfl rfl (by decide +kernel) ⟨Nat.le_of_ble_eq_true rfl, Nat.le_of_ble_eq_true rfl⟩) ⟨fun a U g mk q => by obtain ⟨q0, q1, qP, qK, qD⟩ := q; exact ⟨q0, q1, qP, va_K.moved (u := U) (U := U.calling g mk a) (Vm.Alike.refl U.vm) qK, qD⟩, va_recv hK hPc (ci := 5) (q0 := 0) rfl rfl, fun U hU hW => ⟨rfl, by rw [hU], by rw [hU]; exact hPc, va_K.moved hW.alike hK, hDc.weaken (fun _ _ _ _ => trivial)⟩⟩ rfl rfl hl.1 rfl (lv_room (Nat.le_of_ble_eq_true rfl)) dX2_decodeNumber_2 ⟨Nat.le_of_ble_eq_true rfl, Nat.le_of_ble_eq_true rfl⟩) hS (fun q _ h => hFc q h) hFc (fun r_1 u t H1 locs ht hvm hw hB hz1 hk1 hSn => ?_)
  subst hw
  obtain ⟨hP1, hD1, hf1_0⟩ := hB
  rw [ht] at hP1
  obtain ⟨hPn, hDn⟩ := va_join (wr := []) (w1 := [(nu, .inr (5, [.ref au, .int lu])), (au, .inl (cI, cap, .inl fu))]) hP hD [0, 1] [] rfl rfl (by decide +kernel) (by decide +kernel) hk1 hFc hP1 hD1
  clear hP hD hS hPc hDc hFc hk1 hz1 hvm ht hP1 hD1
  generalize H1 = H at hPn hSn ⊢
  have hP : va_P (dC, dI) vwCl [(nu, .inr (5, [.ref au, .int lu])), (au, .inl (cI, cap, .inl fu))] H := hPn
  have hD : va_D A [(nu, .inr (5, [.ref au, .int lu])), (au, .inl (cI, cap, .inl fu))] := hDn
  have hS := hSn
  clear hPn hDn hSn
  have hb1 : r_1.toInt = bt fu en.toInt fr.toNatClampNeg := get_bt (k := fr.toNatClampNeg) hf1_0 (by omega) (by omega) hen
  refine lv_bipush (v := 38) hx hb dX2_decodeNumber_5 (by decide) ?_
  refine lv_icmp_ne (tgt := 29) hx hb dX2_decodeNumber_7 (by decide) (fun c_2 => ?_) (fun c_2 => ?_)
  · have tc_2 : ¬ r_1.toInt = 38 := v_ne c_2
    refine lv_iconst (v := (-1)) hx hb dX2_decodeNumber_29 (by decide) ?_
    have hP9 := hP.sub (ws' := [(nu, .inr (5, [.ref au, .int lu])), (au, .inl (cI, cap, .inl fu))]) [0, 1] rfl
    have hD9 := hD.sub (ws' := [(nu, .inr (5, [.ref au, .int lu])), (au, .inl (cI, cap, .inl fu))]) [0, 1] (by decide +kernel) rfl
    rw [hQQ]
    exact W.iret (v := (-1)) hx hb hr (fun t ht hW => ⟨⟨(-1), (-1), rfl, rfl, ⟨by rw [ht]; exact hP9, hD9, Or.inr ⟨rfl, fun l x h => by have o1 := bt_c fu en.toInt (fr.toNatClampNeg + 1); unfold DNa DN at h; omega⟩⟩⟩, hS.F ht⟩) hS.2.2 dX2_decodeNumber_30
  · have tc_2 : r_1.toInt = 38 := v_eq c_2
    refine lv_iload_n hx hb dX2_decodeNumber_10 rfl (lv_at hl 1 rfl) ?_
    refine lv_iconst (v := 1) hx hb dX2_decodeNumber_11 (by decide) ?_
    refine lv_iadd hx hb dX2_decodeNumber_12 ?_
    refine lv_topi (fun x_3 ex_3 => ?_)
    have tx_3 : x_3.toInt = fr.toInt + 1 := v_add ex_3 (by show -2147483648 ≤ fr.toInt + 1; omega) (by show fr.toInt + 1 < 2147483648; omega)
    refine lv_iload_n hx hb dX2_decodeNumber_13 rfl (lv_at hl 2 rfl) ?_
    refine lv_icmp_ge (tgt := 29) hx hb dX2_decodeNumber_14 (by decide) (fun c_4 => ?_) (fun c_4 => ?_)
    · have tc_4 : en.toInt ≤ x_3.toInt := v_le c_4
      refine lv_iconst (v := (-1)) hx hb dX2_decodeNumber_29 (by decide) ?_
      have hP9 := hP.sub (ws' := [(nu, .inr (5, [.ref au, .int lu])), (au, .inl (cI, cap, .inl fu))]) [0, 1] rfl
      have hD9 := hD.sub (ws' := [(nu, .inr (5, [.ref au, .int lu])), (au, .inl (cI, cap, .inl fu))]) [0, 1] (by decide +kernel) rfl
      rw [hQQ]
      exact W.iret (v := (-1)) hx hb hr (fun t ht hW => ⟨⟨(-1), (-1), rfl, rfl, ⟨by rw [ht]; exact hP9, hD9, Or.inr ⟨rfl, fun l x h => by have o1 := bt_c fu en.toInt (fr.toNatClampNeg + 1); unfold DNa DN at h; omega⟩⟩⟩, hS.F ht⟩) hS.2.2 dX2_decodeNumber_30
    · have tc_4 : x_3.toInt < en.toInt := v_nle c_4
      refine lv_aload_n hx hb dX2_decodeNumber_17 rfl (lv_at hl 0 rfl) ?_
      refine lv_iload_n hx hb dX2_decodeNumber_18 rfl (lv_at hl 1 rfl) ?_
      refine lv_iconst (v := 1) hx hb dX2_decodeNumber_19 (by decide) ?_
      refine lv_iadd hx hb dX2_decodeNumber_20 ?_
      refine lv_topi (fun x_5 ex_5 => ?_)
      have tx_5 : x_5.toInt = fr.toInt + 1 := v_add ex_5 (by show -2147483648 ≤ fr.toInt + 1; omega) (by show fr.toInt + 1 < 2147483648; omega)
      have hPc := hP.sub (ws' := [(nu, .inr (5, [.ref au, .int lu])), (au, .inl (cI, cap, .inl fu))]) [0, 1] rfl
      have hDc := hD.sub (ws' := [(nu, .inr (5, [.ref au, .int lu])), (au, .inl (cI, cap, .inl fu))]) [0, 1] (by decide +kernel) rfl
      have hFc := va_free (wc := [(nu, .inr (5, [.ref au, .int lu])), (au, .inl (cI, cap, .inl fu))]) hD hS hA [0, 1] rfl
      refine va_calli (va_runV (As := [.int x_5]) (rest := []) ⟨hx, hb, hml, hown, hts⟩ (m_X5_get l dC dI cI cS H.size nu au cap lu fu x_5 (g_lu) (by omega)) (cwV 1 hts gX2_decodeNumber_X5_get rfl rfl rfl (by decide +kernel) ⟨Nat.le_of_ble_eq_true rfl, Nat.le_of_ble_eq_true rfl⟩) ⟨fun a U g mk q => by obtain ⟨q0, q1, qP, qK, qD⟩ := q; exact ⟨q0, q1, qP, va_K.moved (u := U) (U := U.calling g mk a) (Vm.Alike.refl U.vm) qK, qD⟩, va_recv hK hPc (ci := 5) (q0 := 0) rfl rfl, fun U hU hW => ⟨rfl, by rw [hU], by rw [hU]; exact hPc, va_K.moved hW.alike hK, hDc.weaken (fun _ _ _ _ => trivial)⟩⟩ rfl rfl hl.1 rfl (lv_room (Nat.le_of_ble_eq_true rfl)) dX2_decodeNumber_21 ⟨Nat.le_of_ble_eq_true rfl, Nat.le_of_ble_eq_true rfl⟩) hS (fun q _ h => hFc q h) hFc (fun r_6 u t H1 locs ht hvm hw hB hz1 hk1 hSn => ?_)
      subst hw
      obtain ⟨hP1, hD1, hf6_0⟩ := hB
      rw [ht] at hP1
      obtain ⟨hPn, hDn⟩ := va_join (wr := []) (w1 := [(nu, .inr (5, [.ref au, .int lu])), (au, .inl (cI, cap, .inl fu))]) hP hD [0, 1] [] rfl rfl (by decide +kernel) (by decide +kernel) hk1 hFc hP1 hD1
      clear hP hD hS hPc hDc hFc hk1 hz1 hvm ht hP1 hD1
      generalize H1 = H at hPn hSn ⊢
      have hP : va_P (dC, dI) vwCl [(nu, .inr (5, [.ref au, .int lu])), (au, .inl (cI, cap, .inl fu))] H := hPn
      have hD : va_D A [(nu, .inr (5, [.ref au, .int lu])), (au, .inl (cI, cap, .inl fu))] := hDn
      have hS := hSn
      clear hPn hDn hSn
      have hb6 : r_6.toInt = bt fu en.toInt (fr.toNatClampNeg + 1) := get_bt (k := fr.toNatClampNeg + 1) hf6_0 (by omega) (by omega) hen
      refine lv_bipush (v := 35) hx hb dX2_decodeNumber_24 (by decide) ?_
      refine lv_icmp_eq (tgt := 31) hx hb dX2_decodeNumber_26 (by decide) (fun c_7 => ?_) (fun c_7 => ?_)
      · have tc_7 : r_6.toInt = 35 := v_eq c_7
        refine lv_iconst (v := 0) hx hb dX2_decodeNumber_31 (by decide) ?_
        refine lv_istore_n (lv' := [(3, .int 0), (0, .ref nu), (1, .int fr), (2, .int en)]) hx hb dX2_decodeNumber_32 rfl hl (by decide) rfl (fun ls hl => ?_)
        refine lv_iload_n hx hb dX2_decodeNumber_33 rfl (lv_at hl 2 rfl) ?_
        refine lv_iconst (v := 2) hx hb dX2_decodeNumber_34 (by decide) ?_
        refine lv_iadd hx hb dX2_decodeNumber_35 ?_
        refine lv_topi (fun x_8 ex_8 => ?_)
        have tx_8 : x_8.toInt = fr.toInt + 2 := v_add ex_8 (by show -2147483648 ≤ fr.toInt + 2; omega) (by show fr.toInt + 2 < 2147483648; omega)
        refine lv_istore (lv' := [(4, .int x_8), (3, .int 0), (0, .ref nu), (1, .int fr), (2, .int en)]) hx hb dX2_decodeNumber_36 hl (by decide) rfl (fun ls hl => ?_)
        have LOOP_38 : ∀ (k_38 : Nat) (nb : Int32) (p_ : Int32) (H : Heap) (locs : List Loc) (ls : Array Slot), MSd (en.toInt - p_.toInt : Int) k_38 → (0 ≤ nb.toInt ∧ nb.toInt ≤ 999999) → (2 ≤ p_.toInt ∧ p_.toInt ≤ 2408) → (fr.toInt + 2 ≤ p_.toInt ∧ p_.toInt ≤ fr.toInt + 8) → (NI (bo fu en.toInt fr.toNatClampNeg) (p_.toInt - fr.toInt - 2).toNat nb.toInt) → va_P (dC, dI) vwCl [(nu, .inr (5, [.ref au, .int lu])), (au, .inl (cI, cap, .inl fu))] H → va_D A [(nu, .inr (5, [.ref au, .int lu])), (au, .inl (cI, cap, .inl fu))] → va_S A s.heap H locs → lv_has ls 7 [(4, .int p_), (3, .int nb), (0, .ref nu), (1, .int fr), (2, .int en)] → W p l e (headSpec wsX2_decodeNumber ({ frames := 1, cells := 0, slots := 0, locals := 21 } : Room)).room s m ([.ref nu, .int fr, .int en] : List Value).toArray below meth c H locs 0 0 (MQ below QQ ([.ref nu, .int fr, .int en] : List Value).toArray s 0 0 A) (F0 m 38 ls []) := by
          clear hP hD hS hl
          intro k_38
          induction k_38 with
          | zero =>
            intro nb p_ H locs ls hm_38 g_nb g_p_ hp2 hni hP hD hS hl
            exact ms_0 hm_38
          | succ k_38 ih_38 =>
            intro nb p_ H locs ls hm_38 g_nb g_p_ hp2 hni hP hD hS hl
            refine lv_iload hx hb dX2_decodeNumber_38 (lv_at hl 0 rfl) ?_
            refine lv_iload_n hx hb dX2_decodeNumber_40 rfl (lv_at hl 4 rfl) ?_
            refine lv_icmp_ge (tgt := 153) hx hb dX2_decodeNumber_41 (by decide) (fun c_9 => ?_) (fun c_9 => ?_)
            · have tc_9 : en.toInt ≤ p_.toInt := v_le c_9
              refine lv_iconst (v := (-1)) hx hb dX2_decodeNumber_153 (by decide) ?_
              have hP9 := hP.sub (ws' := [(nu, .inr (5, [.ref au, .int lu])), (au, .inl (cI, cap, .inl fu))]) [0, 1] rfl
              have hD9 := hD.sub (ws' := [(nu, .inr (5, [.ref au, .int lu])), (au, .inl (cI, cap, .inl fu))]) [0, 1] (by decide +kernel) rfl
              rw [hQQ]
              exact W.iret (v := (-1)) hx hb hr (fun t ht hW => ⟨⟨(-1), (-1), rfl, rfl, ⟨by rw [ht]; exact hP9, hD9, Or.inr ⟨rfl, by first | exact DN_no (B := bo fu en.toInt fr.toNatClampNeg) (next := -1) hni (bt_out (by omega)).symm (by omega) | exact DN_no (B := bo fu en.toInt fr.toNatClampNeg) hni rfl (Or.inr (Or.inr (Or.inl (by omega))))⟩⟩⟩, hS.F ht⟩) hS.2.2 dX2_decodeNumber_154
            · have tc_9 : p_.toInt < en.toInt := v_nle c_9
              refine lv_iload hx hb dX2_decodeNumber_44 (lv_at hl 0 rfl) ?_
              refine lv_iload_n hx hb dX2_decodeNumber_46 rfl (lv_at hl 3 rfl) ?_
              refine lv_bipush (v := 8) hx hb dX2_decodeNumber_47 (by decide) ?_
              refine lv_iadd hx hb dX2_decodeNumber_49 ?_
              refine lv_topi (fun x_10 ex_10 => ?_)
              have tx_10 : x_10.toInt = fr.toInt + 8 := v_add ex_10 (by show -2147483648 ≤ fr.toInt + 8; omega) (by show fr.toInt + 8 < 2147483648; omega)
              refine lv_icmp_ge (tgt := 153) hx hb dX2_decodeNumber_50 (by decide) (fun c_11 => ?_) (fun c_11 => ?_)
              · have tc_11 : x_10.toInt ≤ p_.toInt := v_le c_11
                refine lv_iconst (v := (-1)) hx hb dX2_decodeNumber_153 (by decide) ?_
                have hP9 := hP.sub (ws' := [(nu, .inr (5, [.ref au, .int lu])), (au, .inl (cI, cap, .inl fu))]) [0, 1] rfl
                have hD9 := hD.sub (ws' := [(nu, .inr (5, [.ref au, .int lu])), (au, .inl (cI, cap, .inl fu))]) [0, 1] (by decide +kernel) rfl
                rw [hQQ]
                exact W.iret (v := (-1)) hx hb hr (fun t ht hW => ⟨⟨(-1), (-1), rfl, rfl, ⟨by rw [ht]; exact hP9, hD9, Or.inr ⟨rfl, by first | exact DN_no (B := bo fu en.toInt fr.toNatClampNeg) (next := -1) hni (bt_out (by omega)).symm (by omega) | exact DN_no (B := bo fu en.toInt fr.toNatClampNeg) hni rfl (Or.inr (Or.inr (Or.inl (by omega))))⟩⟩⟩, hS.F ht⟩) hS.2.2 dX2_decodeNumber_154
              · have tc_11 : p_.toInt < x_10.toInt := v_nle c_11
                have hnr := NI_r hni
                refine lv_aload_n hx hb dX2_decodeNumber_53 rfl (lv_at hl 2 rfl) ?_
                refine lv_iload hx hb dX2_decodeNumber_54 (lv_at hl 0 rfl) ?_
                have hPc := hP.sub (ws' := [(nu, .inr (5, [.ref au, .int lu])), (au, .inl (cI, cap, .inl fu))]) [0, 1] rfl
                have hDc := hD.sub (ws' := [(nu, .inr (5, [.ref au, .int lu])), (au, .inl (cI, cap, .inl fu))]) [0, 1] (by decide +kernel) rfl
                have hFc := va_free (wc := [(nu, .inr (5, [.ref au, .int lu])), (au, .inl (cI, cap, .inl fu))]) hD hS hA [0, 1] rfl
                refine va_calli (va_runV (As := [.int p_]) (rest := []) ⟨hx, hb, hml, hown, hts⟩ (m_X5_get l dC dI cI cS H.size nu au cap lu fu p_ (g_lu) (by omega)) (cwV 1 hts gX2_decodeNumber_X5_get rfl rfl rfl (by decide +kernel) ⟨Nat.le_of_ble_eq_true rfl, Nat.le_of_ble_eq_true rfl⟩) ⟨fun a U g mk q => by obtain ⟨q0, q1, qP, qK, qD⟩ := q; exact ⟨q0, q1, qP, va_K.moved (u := U) (U := U.calling g mk a) (Vm.Alike.refl U.vm) qK, qD⟩, va_recv hK hPc (ci := 5) (q0 := 0) rfl rfl, fun U hU hW => ⟨rfl, by rw [hU], by rw [hU]; exact hPc, va_K.moved hW.alike hK, hDc.weaken (fun _ _ _ _ => trivial)⟩⟩ rfl rfl hl.1 rfl (lv_room (Nat.le_of_ble_eq_true rfl)) dX2_decodeNumber_56 ⟨Nat.le_of_ble_eq_true rfl, Nat.le_of_ble_eq_true rfl⟩) hS (fun q _ h => hFc q h) hFc (fun r_12 u t H1 locs ht hvm hw hB hz1 hk1 hSn => ?_)
                subst hw
                obtain ⟨hP1, hD1, hf12_0⟩ := hB
                rw [ht] at hP1
                obtain ⟨hPn, hDn⟩ := va_join (wr := []) (w1 := [(nu, .inr (5, [.ref au, .int lu])), (au, .inl (cI, cap, .inl fu))]) hP hD [0, 1] [] rfl rfl (by decide +kernel) (by decide +kernel) hk1 hFc hP1 hD1
                clear hP hD hS hPc hDc hFc hk1 hz1 hvm ht hP1 hD1
                generalize H1 = H at hPn hSn ⊢
                have hP : va_P (dC, dI) vwCl [(nu, .inr (5, [.ref au, .int lu])), (au, .inl (cI, cap, .inl fu))] H := hPn
                have hD : va_D A [(nu, .inr (5, [.ref au, .int lu])), (au, .inl (cI, cap, .inl fu))] := hDn
                have hS := hSn
                clear hPn hDn hSn
                have hb12 : r_12.toInt = bo fu en.toInt fr.toNatClampNeg (2 + (p_.toInt - fr.toInt - 2).toNat) := get_bt (k := fr.toNatClampNeg + (2 + (p_.toInt - fr.toInt - 2).toNat)) hf12_0 (by omega) (by omega) hen
                refine lv_istore (lv' := [(5, .int r_12), (4, .int p_), (3, .int nb), (0, .ref nu), (1, .int fr), (2, .int en)]) hx hb dX2_decodeNumber_59 hl (by decide) rfl (fun ls hl => ?_)
                refine lv_iload hx hb dX2_decodeNumber_61 (lv_at hl 0 rfl) ?_
                refine lv_bipush (v := 59) hx hb dX2_decodeNumber_63 (by decide) ?_
                refine lv_icmp_ne (tgt := 97) hx hb dX2_decodeNumber_65 (by decide) (fun c_13 => ?_) (fun c_13 => ?_)
                · have tc_13 : ¬ r_12.toInt = 59 := v_ne c_13
                  refine lv_iload_n hx hb dX2_decodeNumber_97 rfl (lv_at hl 2 rfl) ?_
                  refine lv_if_ne (tgt := 112) hx hb dX2_decodeNumber_98 (by decide) (fun c_14 => ?_) (fun c_14 => ?_)
                  · have tc_14 : ¬ nb.toInt = 0 := v_ne c_14
                    refine lv_iconst (v := 0) hx hb dX2_decodeNumber_112 (by decide) ?_
                    refine lv_istore (lv' := [(6, .int 0), (5, .int r_12), (4, .int p_), (3, .int nb), (0, .ref nu), (1, .int fr), (2, .int en)]) hx hb dX2_decodeNumber_113 hl (by decide) rfl (fun ls hl => ?_)
                    refine lv_iload hx hb dX2_decodeNumber_115 (lv_at hl 1 rfl) ?_
                    refine lv_bipush (v := 48) hx hb dX2_decodeNumber_117 (by decide) ?_
                    refine lv_icmp_lt (tgt := 134) hx hb dX2_decodeNumber_119 (by decide) (fun c_15 => ?_) (fun c_15 => ?_)
                    · have tc_15 : r_12.toInt < 48 := v_lt c_15
                      refine lv_iconst (v := (-1)) hx hb dX2_decodeNumber_134 (by decide) ?_
                      have hP9 := hP.sub (ws' := [(nu, .inr (5, [.ref au, .int lu])), (au, .inl (cI, cap, .inl fu))]) [0, 1] rfl
                      have hD9 := hD.sub (ws' := [(nu, .inr (5, [.ref au, .int lu])), (au, .inl (cI, cap, .inl fu))]) [0, 1] (by decide +kernel) rfl
                      rw [hQQ]
                      exact W.iret (v := (-1)) hx hb hr (fun t ht hW => ⟨⟨(-1), (-1), rfl, rfl, ⟨by rw [ht]; exact hP9, hD9, Or.inr ⟨rfl, DN_no (B := bo fu en.toInt fr.toNatClampNeg) hni hb12 (by omega)⟩⟩⟩, hS.F ht⟩) hS.2.2 dX2_decodeNumber_135
                    · have tc_15 : 48 ≤ r_12.toInt := v_nlt c_15
                      refine lv_iload hx hb dX2_decodeNumber_122 (lv_at hl 1 rfl) ?_
                      refine lv_bipush (v := 57) hx hb dX2_decodeNumber_124 (by decide) ?_
                      refine lv_icmp_gt (tgt := 134) hx hb dX2_decodeNumber_126 (by decide) (fun c_16 => ?_) (fun c_16 => ?_)
                      · have tc_16 : 57 < r_12.toInt := v_lt c_16
                        refine lv_iconst (v := (-1)) hx hb dX2_decodeNumber_134 (by decide) ?_
                        have hP9 := hP.sub (ws' := [(nu, .inr (5, [.ref au, .int lu])), (au, .inl (cI, cap, .inl fu))]) [0, 1] rfl
                        have hD9 := hD.sub (ws' := [(nu, .inr (5, [.ref au, .int lu])), (au, .inl (cI, cap, .inl fu))]) [0, 1] (by decide +kernel) rfl
                        rw [hQQ]
                        exact W.iret (v := (-1)) hx hb hr (fun t ht hW => ⟨⟨(-1), (-1), rfl, rfl, ⟨by rw [ht]; exact hP9, hD9, Or.inr ⟨rfl, DN_no (B := bo fu en.toInt fr.toNatClampNeg) hni hb12 (by omega)⟩⟩⟩, hS.F ht⟩) hS.2.2 dX2_decodeNumber_135
                      · have tc_16 : r_12.toInt ≤ 57 := v_nlt c_16
                        refine lv_iload hx hb dX2_decodeNumber_129 (lv_at hl 0 rfl) ?_
                        refine lv_if_eq (tgt := 136) hx hb dX2_decodeNumber_131 (by decide) (fun c_17 => ?_) (fun c_17 => absurd c_17 (by decide))
                        refine lv_iload_n hx hb dX2_decodeNumber_136 rfl (lv_at hl 3 rfl) ?_
                        refine lv_bipush (v := 10) hx hb dX2_decodeNumber_137 (by decide) ?_
                        refine lv_imul hx hb dX2_decodeNumber_139 ?_
                        refine lv_topi (fun x_18 ex_18 => ?_)
                        have tx_18 : x_18.toInt = nb.toInt * 10 := v_mul ex_18 (by show -2147483648 ≤ nb.toInt * 10; omega) (by show nb.toInt * 10 < 2147483648; omega)
                        refine lv_iload hx hb dX2_decodeNumber_140 (lv_at hl 1 rfl) ?_
                        refine lv_iadd hx hb dX2_decodeNumber_142 ?_
                        refine lv_topi (fun x_19 ex_19 => ?_)
                        have tx_19 : x_19.toInt = x_18.toInt + r_12.toInt := v_add ex_19 (by show -2147483648 ≤ x_18.toInt + r_12.toInt; omega) (by show x_18.toInt + r_12.toInt < 2147483648; omega)
                        refine lv_bipush (v := 48) hx hb dX2_decodeNumber_143 (by decide) ?_
                        refine lv_isub hx hb dX2_decodeNumber_145 ?_
                        refine lv_topi (fun x_20 ex_20 => ?_)
                        have tx_20 : x_20.toInt = x_19.toInt - 48 := v_sub ex_20 (by show -2147483648 ≤ x_19.toInt - 48; omega) (by show x_19.toInt - 48 < 2147483648; omega)
                        refine lv_istore_n (lv' := [(3, .int x_20), (6, .int 0), (5, .int r_12), (4, .int p_), (0, .ref nu), (1, .int fr), (2, .int en)]) hx hb dX2_decodeNumber_146 rfl hl (by decide) rfl (fun ls hl => ?_)
                        obtain ⟨x_21, ex_21⟩ : ∃ y : Int32, y = p_ + 1 := ⟨_, rfl⟩
                        have tx_21 : x_21.toInt = p_.toInt + 1 := v_add ex_21 (by show -2147483648 ≤ p_.toInt + 1; omega) (by show p_.toInt + 1 < 2147483648; omega)
                        refine lv_iinc (v := x_21) (lv' := [(4, .int x_21), (3, .int x_20), (6, .int 0), (5, .int r_12), (0, .ref nu), (1, .int fr), (2, .int en)]) hx hb dX2_decodeNumber_147 hl (k := 3) rfl (by rw [ex_21]; rfl) (by decide) rfl (fun ls hl => ?_)
                        refine lv_goto (tgt := 38) hx hb dX2_decodeNumber_150 (by decide) ?_
                        exact ih_38 x_20 x_21 _ _ _ (ms_lt hm_38 (by show ((en.toInt - x_21.toInt : Int)) < en.toInt - p_.toInt; omega) (by show (0 : Int) < en.toInt - p_.toInt; omega)) (by show 0 ≤ x_20.toInt ∧ x_20.toInt ≤ 999999; omega) (by show 2 ≤ x_21.toInt ∧ x_21.toInt ≤ 2408; omega) (by show fr.toInt + 2 ≤ x_21.toInt ∧ x_21.toInt ≤ fr.toInt + 8; omega) (NI_s hni hb12 (by omega) (by omega) (by omega) (by omega) (by omega)) hP hD hS (lv_sub hl [0, 1, 4, 5, 6] rfl)
                  · have tc_14 : nb.toInt = 0 := v_eq c_14
                    refine lv_iload hx hb dX2_decodeNumber_101 (lv_at hl 0 rfl) ?_
                    refine lv_bipush (v := 48) hx hb dX2_decodeNumber_103 (by decide) ?_
                    refine lv_icmp_ne (tgt := 112) hx hb dX2_decodeNumber_105 (by decide) (fun c_22 => ?_) (fun c_22 => ?_)
                    · have tc_22 : ¬ r_12.toInt = 48 := v_ne c_22
                      refine lv_iconst (v := 0) hx hb dX2_decodeNumber_112 (by decide) ?_
                      refine lv_istore (lv' := [(6, .int 0), (5, .int r_12), (4, .int p_), (3, .int nb), (0, .ref nu), (1, .int fr), (2, .int en)]) hx hb dX2_decodeNumber_113 hl (by decide) rfl (fun ls hl => ?_)
                      refine lv_iload hx hb dX2_decodeNumber_115 (lv_at hl 1 rfl) ?_
                      refine lv_bipush (v := 48) hx hb dX2_decodeNumber_117 (by decide) ?_
                      refine lv_icmp_lt (tgt := 134) hx hb dX2_decodeNumber_119 (by decide) (fun c_23 => ?_) (fun c_23 => ?_)
                      · have tc_23 : r_12.toInt < 48 := v_lt c_23
                        refine lv_iconst (v := (-1)) hx hb dX2_decodeNumber_134 (by decide) ?_
                        have hP9 := hP.sub (ws' := [(nu, .inr (5, [.ref au, .int lu])), (au, .inl (cI, cap, .inl fu))]) [0, 1] rfl
                        have hD9 := hD.sub (ws' := [(nu, .inr (5, [.ref au, .int lu])), (au, .inl (cI, cap, .inl fu))]) [0, 1] (by decide +kernel) rfl
                        rw [hQQ]
                        exact W.iret (v := (-1)) hx hb hr (fun t ht hW => ⟨⟨(-1), (-1), rfl, rfl, ⟨by rw [ht]; exact hP9, hD9, Or.inr ⟨rfl, DN_no (B := bo fu en.toInt fr.toNatClampNeg) hni hb12 (by omega)⟩⟩⟩, hS.F ht⟩) hS.2.2 dX2_decodeNumber_135
                      · have tc_23 : 48 ≤ r_12.toInt := v_nlt c_23
                        refine lv_iload hx hb dX2_decodeNumber_122 (lv_at hl 1 rfl) ?_
                        refine lv_bipush (v := 57) hx hb dX2_decodeNumber_124 (by decide) ?_
                        refine lv_icmp_gt (tgt := 134) hx hb dX2_decodeNumber_126 (by decide) (fun c_24 => ?_) (fun c_24 => ?_)
                        · have tc_24 : 57 < r_12.toInt := v_lt c_24
                          refine lv_iconst (v := (-1)) hx hb dX2_decodeNumber_134 (by decide) ?_
                          have hP9 := hP.sub (ws' := [(nu, .inr (5, [.ref au, .int lu])), (au, .inl (cI, cap, .inl fu))]) [0, 1] rfl
                          have hD9 := hD.sub (ws' := [(nu, .inr (5, [.ref au, .int lu])), (au, .inl (cI, cap, .inl fu))]) [0, 1] (by decide +kernel) rfl
                          rw [hQQ]
                          exact W.iret (v := (-1)) hx hb hr (fun t ht hW => ⟨⟨(-1), (-1), rfl, rfl, ⟨by rw [ht]; exact hP9, hD9, Or.inr ⟨rfl, DN_no (B := bo fu en.toInt fr.toNatClampNeg) hni hb12 (by omega)⟩⟩⟩, hS.F ht⟩) hS.2.2 dX2_decodeNumber_135
                        · have tc_24 : r_12.toInt ≤ 57 := v_nlt c_24
                          refine lv_iload hx hb dX2_decodeNumber_129 (lv_at hl 0 rfl) ?_
                          refine lv_if_eq (tgt := 136) hx hb dX2_decodeNumber_131 (by decide) (fun c_25 => ?_) (fun c_25 => absurd c_25 (by decide))
                          refine lv_iload_n hx hb dX2_decodeNumber_136 rfl (lv_at hl 3 rfl) ?_
                          refine lv_bipush (v := 10) hx hb dX2_decodeNumber_137 (by decide) ?_
                          refine lv_imul hx hb dX2_decodeNumber_139 ?_
                          refine lv_topi (fun x_26 ex_26 => ?_)
                          have tx_26 : x_26.toInt = nb.toInt * 10 := v_mul ex_26 (by show -2147483648 ≤ nb.toInt * 10; omega) (by show nb.toInt * 10 < 2147483648; omega)
                          refine lv_iload hx hb dX2_decodeNumber_140 (lv_at hl 1 rfl) ?_
                          refine lv_iadd hx hb dX2_decodeNumber_142 ?_
                          refine lv_topi (fun x_27 ex_27 => ?_)
                          have tx_27 : x_27.toInt = x_26.toInt + r_12.toInt := v_add ex_27 (by show -2147483648 ≤ x_26.toInt + r_12.toInt; omega) (by show x_26.toInt + r_12.toInt < 2147483648; omega)
                          refine lv_bipush (v := 48) hx hb dX2_decodeNumber_143 (by decide) ?_
                          refine lv_isub hx hb dX2_decodeNumber_145 ?_
                          refine lv_topi (fun x_28 ex_28 => ?_)
                          have tx_28 : x_28.toInt = x_27.toInt - 48 := v_sub ex_28 (by show -2147483648 ≤ x_27.toInt - 48; omega) (by show x_27.toInt - 48 < 2147483648; omega)
                          refine lv_istore_n (lv' := [(3, .int x_28), (6, .int 0), (5, .int r_12), (4, .int p_), (0, .ref nu), (1, .int fr), (2, .int en)]) hx hb dX2_decodeNumber_146 rfl hl (by decide) rfl (fun ls hl => ?_)
                          obtain ⟨x_29, ex_29⟩ : ∃ y : Int32, y = p_ + 1 := ⟨_, rfl⟩
                          have tx_29 : x_29.toInt = p_.toInt + 1 := v_add ex_29 (by show -2147483648 ≤ p_.toInt + 1; omega) (by show p_.toInt + 1 < 2147483648; omega)
                          refine lv_iinc (v := x_29) (lv' := [(4, .int x_29), (3, .int x_28), (6, .int 0), (5, .int r_12), (0, .ref nu), (1, .int fr), (2, .int en)]) hx hb dX2_decodeNumber_147 hl (k := 3) rfl (by rw [ex_29]; rfl) (by decide) rfl (fun ls hl => ?_)
                          refine lv_goto (tgt := 38) hx hb dX2_decodeNumber_150 (by decide) ?_
                          exact ih_38 x_28 x_29 _ _ _ (ms_lt hm_38 (by show ((en.toInt - x_29.toInt : Int)) < en.toInt - p_.toInt; omega) (by show (0 : Int) < en.toInt - p_.toInt; omega)) (by show 0 ≤ x_28.toInt ∧ x_28.toInt ≤ 999999; omega) (by show 2 ≤ x_29.toInt ∧ x_29.toInt ≤ 2408; omega) (by show fr.toInt + 2 ≤ x_29.toInt ∧ x_29.toInt ≤ fr.toInt + 8; omega) (NI_s hni hb12 (by omega) (by omega) (by omega) (by omega) (by omega)) hP hD hS (lv_sub hl [0, 1, 4, 5, 6] rfl)
                    · have tc_22 : r_12.toInt = 48 := v_eq c_22
                      refine lv_iconst (v := 1) hx hb dX2_decodeNumber_108 (by decide) ?_
                      refine lv_goto (tgt := 113) hx hb dX2_decodeNumber_109 (by decide) ?_
                      refine lv_istore (lv' := [(6, .int 1), (5, .int r_12), (4, .int p_), (3, .int nb), (0, .ref nu), (1, .int fr), (2, .int en)]) hx hb dX2_decodeNumber_113 hl (by decide) rfl (fun ls hl => ?_)
                      refine lv_iload hx hb dX2_decodeNumber_115 (lv_at hl 1 rfl) ?_
                      refine lv_bipush (v := 48) hx hb dX2_decodeNumber_117 (by decide) ?_
                      refine lv_icmp_lt (tgt := 134) hx hb dX2_decodeNumber_119 (by decide) (fun c_30 => by exfalso; have tc_30 : r_12.toInt < 48 := v_lt c_30; omega) (fun c_30 => ?_)
                      have tc_30 : 48 ≤ r_12.toInt := v_nlt c_30
                      refine lv_iload hx hb dX2_decodeNumber_122 (lv_at hl 1 rfl) ?_
                      refine lv_bipush (v := 57) hx hb dX2_decodeNumber_124 (by decide) ?_
                      refine lv_icmp_gt (tgt := 134) hx hb dX2_decodeNumber_126 (by decide) (fun c_31 => by exfalso; have tc_31 : 57 < r_12.toInt := v_lt c_31; omega) (fun c_31 => ?_)
                      have tc_31 : r_12.toInt ≤ 57 := v_nlt c_31
                      refine lv_iload hx hb dX2_decodeNumber_129 (lv_at hl 0 rfl) ?_
                      refine lv_if_eq (tgt := 136) hx hb dX2_decodeNumber_131 (by decide) (fun c_32 => absurd c_32 (by decide)) (fun c_32 => ?_)
                      refine lv_iconst (v := (-1)) hx hb dX2_decodeNumber_134 (by decide) ?_
                      have hP9 := hP.sub (ws' := [(nu, .inr (5, [.ref au, .int lu])), (au, .inl (cI, cap, .inl fu))]) [0, 1] rfl
                      have hD9 := hD.sub (ws' := [(nu, .inr (5, [.ref au, .int lu])), (au, .inl (cI, cap, .inl fu))]) [0, 1] (by decide +kernel) rfl
                      rw [hQQ]
                      exact W.iret (v := (-1)) hx hb hr (fun t ht hW => ⟨⟨(-1), (-1), rfl, rfl, ⟨by rw [ht]; exact hP9, hD9, Or.inr ⟨rfl, DN_no (B := bo fu en.toInt fr.toNatClampNeg) hni hb12 (by omega)⟩⟩⟩, hS.F ht⟩) hS.2.2 dX2_decodeNumber_135
                · have tc_13 : r_12.toInt = 59 := v_eq c_13
                  refine lv_iload_n hx hb dX2_decodeNumber_68 rfl (lv_at hl 2 rfl) ?_
                  have hPc := hP.sub (ws' := []) [] rfl
                  have hDc := hD.sub (ws' := []) [] (by decide +kernel) rfl
                  have hFc := va_free (wc := []) hD hS hA [] rfl
                  refine va_calli (va_runSN (As := [.int nb]) (rest := []) ⟨hx, hb, hml, hown, hts⟩ (m_X11_isLetter l dC dI cI cS H.size nb ) ⟨va_cnB 1 hts gX2_decodeNumber_X11_isLetter_n52 rfl rfl rfl hN52 (hts (.initialized RX11) (List.mem_of_getElem? (i := 9) rfl)) (by decide +kernel) ⟨Nat.le_of_ble_eq_true rfl, Nat.le_of_ble_eq_true rfl⟩, (hts (.static yX11_isLetter) (List.mem_of_getElem? (i := 8) rfl)), trivial⟩ ⟨fun a U g mk q => by obtain ⟨q0, q1, qP, qK, qD⟩ := q; exact ⟨q0, q1, qP, va_K.moved (u := U) (U := U.calling g mk a) (Vm.Alike.refl U.vm) qK, qD⟩, fun U hU hW => ⟨rfl, by rw [hU], by rw [hU]; exact hPc, va_K.moved hW.alike hK, hDc.weaken (fun _ _ _ _ => trivial)⟩⟩ rfl rfl hl.1 rfl (lv_room (Nat.le_of_ble_eq_true rfl)) dX2_decodeNumber_69 ⟨Nat.le_of_ble_eq_true rfl, Nat.le_of_ble_eq_true rfl⟩) hS (fun q _ h => hFc q h) hFc (fun r_33 u t H1 locs ht hvm hw hB hz1 hk1 hSn => ?_)
                  subst hw
                  obtain ⟨hP1, hD1, hf33_0, hf33_1⟩ := hB
                  rw [ht] at hP1
                  obtain ⟨hPn, hDn⟩ := va_join (wr := [(nu, .inr (5, [.ref au, .int lu])), (au, .inl (cI, cap, .inl fu))]) (w1 := []) hP hD [] [0, 1] rfl rfl (by decide +kernel) (by decide +kernel) hk1 hFc hP1 hD1
                  clear hP hD hS hPc hDc hFc hk1 hz1 hvm ht hP1 hD1
                  generalize H1 = H at hPn hSn ⊢
                  have hP : va_P (dC, dI) vwCl [(nu, .inr (5, [.ref au, .int lu])), (au, .inl (cI, cap, .inl fu))] H := hPn
                  have hD : va_D A [(nu, .inr (5, [.ref au, .int lu])), (au, .inl (cI, cap, .inl fu))] := hDn
                  have hS := hSn
                  clear hPn hDn hSn
                  refine lv_if_eq (tgt := 95) hx hb dX2_decodeNumber_72 (by decide) (fun c_34 => ?_) (fun c_34 => ?_)
                  · have tc_34 : r_33.toInt = 0 := v_eq c_34
                    refine lv_iconst (v := (-1)) hx hb dX2_decodeNumber_95 (by decide) ?_
                    have hP9 := hP.sub (ws' := [(nu, .inr (5, [.ref au, .int lu])), (au, .inl (cI, cap, .inl fu))]) [0, 1] rfl
                    have hD9 := hD.sub (ws' := [(nu, .inr (5, [.ref au, .int lu])), (au, .inl (cI, cap, .inl fu))]) [0, 1] (by decide +kernel) rfl
                    rw [hQQ]
                    exact W.iret (v := (-1)) hx hb hr (fun t ht hW => ⟨⟨(-1), (-1), rfl, rfl, ⟨by rw [ht]; exact hP9, hD9, Or.inr ⟨rfl, DN_no (B := bo fu en.toInt fr.toNatClampNeg) hni hb12 (by omega)⟩⟩⟩, hS.F ht⟩) hS.2.2 dX2_decodeNumber_96
                  · have tc_34 : ¬ r_33.toInt = 0 := v_ne c_34
                    refine lv_iload_n hx hb dX2_decodeNumber_75 rfl (lv_at hl 2 rfl) ?_
                    have hPc := hP.sub (ws' := []) [] rfl
                    have hDc := hD.sub (ws' := []) [] (by decide +kernel) rfl
                    have hFc := va_free (wc := []) hD hS hA [] rfl
                    refine va_calli (va_runS (As := [.int nb]) (rest := []) ⟨hx, hb, hml, hown, hts⟩ (f_X2_isNumbered l dC dI cI cS H.size nb ) (va_cwS 1 hts gX2_decodeNumber_X2_isNumbered rfl rfl rfl (by decide +kernel) ⟨Nat.le_of_ble_eq_true rfl, Nat.le_of_ble_eq_true rfl⟩) ⟨fun a U g mk q => by obtain ⟨q0, q1, qP, qK, qD⟩ := q; exact ⟨q0, q1, qP, va_K.moved (u := U) (U := U.calling g mk a) (Vm.Alike.refl U.vm) qK, qD⟩, fun U hU hW => ⟨rfl, by rw [hU], by rw [hU]; exact hPc, va_K.moved hW.alike hK, hDc.weaken (fun _ _ _ _ => trivial)⟩⟩ rfl rfl hl.1 rfl (lv_room (Nat.le_of_ble_eq_true rfl)) dX2_decodeNumber_76 ⟨Nat.le_of_ble_eq_true rfl, Nat.le_of_ble_eq_true rfl⟩) hS (fun q _ h => hFc q h) hFc (fun r_35 u t H1 locs ht hvm hw hB hz1 hk1 hSn => ?_)
                    subst hw
                    obtain ⟨hP1, hD1, hf35_0, hf35_1⟩ := hB
                    rw [ht] at hP1
                    obtain ⟨hPn, hDn⟩ := va_join (wr := [(nu, .inr (5, [.ref au, .int lu])), (au, .inl (cI, cap, .inl fu))]) (w1 := []) hP hD [] [0, 1] rfl rfl (by decide +kernel) (by decide +kernel) hk1 hFc hP1 hD1
                    clear hP hD hS hPc hDc hFc hk1 hz1 hvm ht hP1 hD1
                    generalize H1 = H at hPn hSn ⊢
                    have hP : va_P (dC, dI) vwCl [(nu, .inr (5, [.ref au, .int lu])), (au, .inl (cI, cap, .inl fu))] H := hPn
                    have hD : va_D A [(nu, .inr (5, [.ref au, .int lu])), (au, .inl (cI, cap, .inl fu))] := hDn
                    have hS := hSn
                    clear hPn hDn hSn
                    refine lv_if_eq (tgt := 95) hx hb dX2_decodeNumber_79 (by decide) (fun c_36 => ?_) (fun c_36 => ?_)
                    · have tc_36 : r_35.toInt = 0 := v_eq c_36
                      refine lv_iconst (v := (-1)) hx hb dX2_decodeNumber_95 (by decide) ?_
                      have hP9 := hP.sub (ws' := [(nu, .inr (5, [.ref au, .int lu])), (au, .inl (cI, cap, .inl fu))]) [0, 1] rfl
                      have hD9 := hD.sub (ws' := [(nu, .inr (5, [.ref au, .int lu])), (au, .inl (cI, cap, .inl fu))]) [0, 1] (by decide +kernel) rfl
                      rw [hQQ]
                      exact W.iret (v := (-1)) hx hb hr (fun t ht hW => ⟨⟨(-1), (-1), rfl, rfl, ⟨by rw [ht]; exact hP9, hD9, Or.inr ⟨rfl, DN_no (B := bo fu en.toInt fr.toNatClampNeg) hni hb12 (by omega)⟩⟩⟩, hS.F ht⟩) hS.2.2 dX2_decodeNumber_96
                    · have tc_36 : ¬ r_35.toInt = 0 := v_ne c_36
                      refine lv_iload_n hx hb dX2_decodeNumber_82 rfl (lv_at hl 2 rfl) ?_
                      refine lv_iload hx hb dX2_decodeNumber_83 (lv_at hl 1 rfl) ?_
                      refine lv_iconst (v := 1) hx hb dX2_decodeNumber_85 (by decide) ?_
                      refine lv_iadd hx hb dX2_decodeNumber_86 ?_
                      refine lv_topi (fun x_37 ex_37 => ?_)
                      have tx_37 : x_37.toInt = p_.toInt + 1 := v_add ex_37 (by show -2147483648 ≤ p_.toInt + 1; omega) (by show p_.toInt + 1 < 2147483648; omega)
                      refine lv_iload_n hx hb dX2_decodeNumber_87 rfl (lv_at hl 4 rfl) ?_
                      refine lv_isub hx hb dX2_decodeNumber_88 ?_
                      refine lv_topi (fun x_38 ex_38 => ?_)
                      have tx_38 : x_38.toInt = x_37.toInt - fr.toInt := v_sub ex_38 (by show -2147483648 ≤ x_37.toInt - fr.toInt; omega) (by show x_37.toInt - fr.toInt < 2147483648; omega)
                      have hPc := hP.sub (ws' := []) [] rfl
                      have hDc := hD.sub (ws' := []) [] (by decide +kernel) rfl
                      have hFc := va_free (wc := []) hD hS hA [] rfl
                      refine va_calli (va_runS (As := [.int nb, .int x_38]) (rest := []) ⟨hx, hb, hml, hown, hts⟩ (f_X2_found l dC dI cI cS H.size nb x_38 (by omega) (by omega)) (va_cwS 2 hts gX2_decodeNumber_X2_found rfl rfl rfl (by decide +kernel) ⟨Nat.le_of_ble_eq_true rfl, Nat.le_of_ble_eq_true rfl⟩) ⟨fun a U g mk q => by obtain ⟨q0, q1, qP, qK, qD⟩ := q; exact ⟨q0, q1, qP, va_K.moved (u := U) (U := U.calling g mk a) (Vm.Alike.refl U.vm) qK, qD⟩, fun U hU hW => ⟨rfl, by rw [hU], by rw [hU]; exact hPc, va_K.moved hW.alike hK, hDc.weaken (fun _ _ _ _ => trivial)⟩⟩ rfl rfl hl.1 rfl (lv_room (Nat.le_of_ble_eq_true rfl)) dX2_decodeNumber_89 ⟨Nat.le_of_ble_eq_true rfl, Nat.le_of_ble_eq_true rfl⟩) hS (fun q _ h => hFc q h) hFc (fun r_39 u t H1 locs ht hvm hw hB hz1 hk1 hSn => ?_)
                      subst hw
                      obtain ⟨hP1, hD1, hf39_0⟩ := hB
                      rw [ht] at hP1
                      obtain ⟨hPn, hDn⟩ := va_join (wr := [(nu, .inr (5, [.ref au, .int lu])), (au, .inl (cI, cap, .inl fu))]) (w1 := []) hP hD [] [0, 1] rfl rfl (by decide +kernel) (by decide +kernel) hk1 hFc hP1 hD1
                      clear hP hD hS hPc hDc hFc hk1 hz1 hvm ht hP1 hD1
                      generalize H1 = H at hPn hSn ⊢
                      have hP : va_P (dC, dI) vwCl [(nu, .inr (5, [.ref au, .int lu])), (au, .inl (cI, cap, .inl fu))] H := hPn
                      have hD : va_D A [(nu, .inr (5, [.ref au, .int lu])), (au, .inl (cI, cap, .inl fu))] := hDn
                      have hS := hSn
                      clear hPn hDn hSn
                      refine lv_goto (tgt := 96) hx hb dX2_decodeNumber_92 (by decide) ?_
                      have hP9 := hP.sub (ws' := [(nu, .inr (5, [.ref au, .int lu])), (au, .inl (cI, cap, .inl fu))]) [0, 1] rfl
                      have hD9 := hD.sub (ws' := [(nu, .inr (5, [.ref au, .int lu])), (au, .inl (cI, cap, .inl fu))]) [0, 1] (by decide +kernel) rfl
                      rw [hQQ]
                      exact W.iret (v := r_39) hx hb hr (fun t ht hW => ⟨⟨r_39, r_39, rfl, rfl, ⟨by rw [ht]; exact hP9, hD9, Or.inl ⟨(p_.toInt - fr.toInt - 2).toNat + 3, nb, DN_of (B := bo fu en.toInt fr.toNatClampNeg) hni (by rw [← hb12]; omega) (by show bt fu en.toInt fr.toNatClampNeg = 38; omega) (by show bt fu en.toInt (fr.toNatClampNeg + 1) = 35; omega) (by omega) (by omega) (by omega) (by omega), by omega, by omega, by omega⟩⟩⟩, hS.F ht⟩) hS.2.2 dX2_decodeNumber_96
        exact LOOP_38 _ 0 x_8 _ _ _ (ms_s _) (by decide) (by show 2 ≤ x_8.toInt ∧ x_8.toInt ≤ 2408; omega) (by show fr.toInt + 2 ≤ x_8.toInt ∧ x_8.toInt ≤ fr.toInt + 8; omega) (NI_0 (by omega) rfl) hP hD hS (lv_sub hl [0, 1, 2, 3, 4] rfl)
      · have tc_7 : ¬ r_6.toInt = 35 := v_ne c_7
        refine lv_iconst (v := (-1)) hx hb dX2_decodeNumber_29 (by decide) ?_
        have hP9 := hP.sub (ws' := [(nu, .inr (5, [.ref au, .int lu])), (au, .inl (cI, cap, .inl fu))]) [0, 1] rfl
        have hD9 := hD.sub (ws' := [(nu, .inr (5, [.ref au, .int lu])), (au, .inl (cI, cap, .inl fu))]) [0, 1] (by decide +kernel) rfl
        rw [hQQ]
        exact W.iret (v := (-1)) hx hb hr (fun t ht hW => ⟨⟨(-1), (-1), rfl, rfl, ⟨by rw [ht]; exact hP9, hD9, Or.inr ⟨rfl, fun l x h => by have o1 := bt_c fu en.toInt (fr.toNatClampNeg + 1); unfold DNa DN at h; omega⟩⟩⟩, hS.F ht⟩) hS.2.2 dX2_decodeNumber_30

end

/-! 59c.dec -/
section
set_option maxHeartbeats 40000000 in
set_option maxRecDepth 100000 in
theorem f_X2_decode (l : Launch) (dC : Nat → ClassId) (dI : Nat → Nat → Nat) (cI cS : ClassId) (sz : Nat) (oC : Nat) (nu : Nat) (o4 : Nat) (o5 : Nat) (a41 : Nat) (a42 : Nat) (a43 : Nat) (a51 : Nat) (a52 : Nat) (a53 : Nat) (au : Nat) (cap : Nat) (l4 : Int32) (f41 : Nat → Int32) (l5 : Int32) (f51 : Nat → Int32) (lu : Int32) (fu : Nat → Int32) (cd : Int32) (fr : Int32) (en : Int32) (g_lu : 0 ≤ lu.toInt ∧ lu.toInt ≤ (cap : Int)) (hcap : cap ≤ 2400) (hen : en.toInt ≤ lu.toInt) (hfr : 0 ≤ fr.toInt) (hby : prg en.toInt 0 255 fu) (hL4 : prg 256 (-1) 65535 f41) (hL5 : prg 256 (-1) 65535 f51) : Met l yX2_decode wsX2_decode ({ frames := 2, cells := 0, slots := 0, locals := 48 } : Room) (va_Pc [.ref oC, .int cd, .ref nu, .int fr, .int en] (fun U => U.heap.size = sz ∧ va_P (dC, dI) vwCl [(oC, .inr (2, [.ref o4, .ref o5])), (o4, .inr (10, [.ref a41, .ref a42, .ref a43, .int l4])), (a41, .inl (cI, 256, .inl f41)), (o5, .inr (10, [.ref a51, .ref a52, .ref a53, .int l5])), (a51, .inl (cI, 256, .inl f51)), (nu, .inr (5, [.ref au, .int lu])), (au, .inl (cI, cap, .inl fu))] U.heap ∧ va_K (dC, dI) vwCl [(cI, .int), (cS, .short)] U ∧ va_D (fun _ => True) [(oC, .inr (2, [.ref o4, .ref o5])), (o4, .inr (10, [.ref a41, .ref a42, .ref a43, .int l4])), (a41, .inl (cI, 256, .inl f41)), (o5, .inr (10, [.ref a51, .ref a52, .ref a53, .int l5])), (a51, .inl (cI, 256, .inl f51)), (nu, .inr (5, [.ref au, .int lu])), (au, .inl (cI, cap, .inl fu))] ∧ va_Nw (.methodLinkNest RX2 52 yX11_isLetter "TextMender") U)) (va_Qi (fun (r : Int32) (u : Int32) => r = u) (fun (r : Int32) t => va_P (dC, dI) vwCl [(oC, .inr (2, [.ref o4, .ref o5])), (o4, .inr (10, [.ref a41, .ref a42, .ref a43, .int l4])), (a41, .inl (cI, 256, .inl f41)), (o5, .inr (10, [.ref a51, .ref a52, .ref a53, .int l5])), (a51, .inl (cI, 256, .inl f51)), (nu, .inr (5, [.ref au, .int lu])), (au, .inl (cI, cap, .inl fu))] t.heap ∧ va_D (va_A [(oC, .inr (2, [.ref o4, .ref o5])), (o4, .inr (10, [.ref a41, .ref a42, .ref a43, .int l4])), (a41, .inl (cI, 256, .inl f41)), (o5, .inr (10, [.ref a51, .ref a52, .ref a53, .int l5])), (a51, .inl (cI, 256, .inl f51)), (nu, .inr (5, [.ref au, .int lu])), (au, .inl (cI, cap, .inl fu))] sz) [(oC, .inr (2, [.ref o4, .ref o5])), (o4, .inr (10, [.ref a41, .ref a42, .ref a43, .int l4])), (a41, .inl (cI, 256, .inl f41)), (o5, .inr (10, [.ref a51, .ref a52, .ref a53, .int l5])), (a51, .inl (cI, 256, .inl f51)), (nu, .inr (5, [.ref au, .int lu])), (au, .inl (cI, cap, .inl fu))] ∧ (F_dc r cd f41 f51 fu en.toInt fr.toNatClampNeg)) (va_A [(oC, .inr (2, [.ref o4, .ref o5])), (o4, .inr (10, [.ref a41, .ref a42, .ref a43, .int l4])), (a41, .inl (cI, 256, .inl f41)), (o5, .inr (10, [.ref a51, .ref a52, .ref a53, .int l5])), (a51, .inl (cI, 256, .inl f51)), (nu, .inr (5, [.ref au, .int lu])), (au, .inl (cI, cap, .inl fu))] sz)) 0 0 (va_A [(oC, .inr (2, [.ref o4, .ref o5])), (o4, .inr (10, [.ref a41, .ref a42, .ref a43, .int l4])), (a41, .inl (cI, 256, .inl f41)), (o5, .inr (10, [.ref a51, .ref a52, .ref a53, .int l5])), (a51, .inl (cI, 256, .inl f51)), (nu, .inr (5, [.ref au, .int lu])), (au, .inl (cI, cap, .inl fu))] sz) := by
  refine Met.ofW (cc := cX2_decode) (maxL := 7) (ret := (some .int)) (by decide) rfl ?_
  intro p e s m args below meth c s₁ B hml hv
  obtain ⟨rfl, hsz, hP, hK, hD0, hN52⟩ := hv
  have hx := B.exec
  have hb := B.bytes
  have hr := B.returns
  have hts := atoms_spec (ws := wsX2_decode) B.pre
  have hown : s.vm.findClass RX2 = some m.cls := findClass_of_methodNamed B.named
  have hlocks := B.notSynchronized
  subst hsz
  have hD := hD0.self (sz := s.heap.size)
  generalize hAe : va_A [(oC, .inr (2, [.ref o4, .ref o5])), (o4, .inr (10, [.ref a41, .ref a42, .ref a43, .int l4])), (a41, .inl (cI, 256, .inl f41)), (o5, .inr (10, [.ref a51, .ref a52, .ref a53, .int l5])), (a51, .inl (cI, 256, .inl f51)), (nu, .inr (5, [.ref au, .int lu])), (au, .inl (cI, cap, .inl fu))] s.heap.size = A at hD ⊢
  have hA : ∀ q : Nat, s.heap.size ≤ q → A q := fun q h => by rw [← hAe]; exact Or.inr h
  have hS : va_S A s.heap s.heap [] := va_S.rf
  have hP : va_P (dC, dI) vwCl [(oC, .inr (2, [.ref o4, .ref o5])), (o4, .inr (10, [.ref a41, .ref a42, .ref a43, .int l4])), (a41, .inl (cI, 256, .inl f41)), (o5, .inr (10, [.ref a51, .ref a52, .ref a53, .int l5])), (a51, .inl (cI, 256, .inl f51)), (nu, .inr (5, [.ref au, .int lu])), (au, .inl (cI, cap, .inl fu))] s.heap := hP
  have hl := lv_entry ([.ref oC, .int cd, .ref nu, .int fr, .int en]) (n := 7) (Nat.le_of_ble_eq_true rfl)
  rw [lg_entry_eq]
  generalize (lg_sl ([.ref oC, .int cd, .ref nu, .int fr, .int en]) ++ List.replicate (7 - (lg_sl ([.ref oC, .int cd, .ref nu, .int fr, .int en])).length) Slot.unset).toArray = ls at hl ⊢
  have hl : lv_has ls 7 [(0, .ref oC), (1, .int cd), (2, .ref nu), (3, .int fr), (4, .int en)] := hl
  obtain ⟨QQ, hQQ⟩ : ∃ QQ : Array Value → State → Outcome → State → Prop, QQ = va_Qi (fun (r : Int32) (u : Int32) => r = u) (fun (r : Int32) t => va_P (dC, dI) vwCl [(oC, .inr (2, [.ref o4, .ref o5])), (o4, .inr (10, [.ref a41, .ref a42, .ref a43, .int l4])), (a41, .inl (cI, 256, .inl f41)), (o5, .inr (10, [.ref a51, .ref a52, .ref a53, .int l5])), (a51, .inl (cI, 256, .inl f51)), (nu, .inr (5, [.ref au, .int lu])), (au, .inl (cI, cap, .inl fu))] t.heap ∧ va_D A [(oC, .inr (2, [.ref o4, .ref o5])), (o4, .inr (10, [.ref a41, .ref a42, .ref a43, .int l4])), (a41, .inl (cI, 256, .inl f41)), (o5, .inr (10, [.ref a51, .ref a52, .ref a53, .int l5])), (a51, .inl (cI, 256, .inl f51)), (nu, .inr (5, [.ref au, .int lu])), (au, .inl (cI, cap, .inl fu))] ∧ (F_dc r cd f41 f51 fu en.toInt fr.toNatClampNeg)) A := ⟨_, rfl⟩
  rw [← hQQ]
  have c0 := v_clamp (x := fr) (by omega)
  have z0 : (0 : Int32).toInt = 0 := rfl
  have z1 : (1 : Int32).toInt = 1 := rfl
  have z2 : (2 : Int32).toInt = 2 := rfl
  have z3 : (3 : Int32).toInt = 3 := rfl
  refine lv_aload_n hx hb dX2_decode_0 rfl (lv_at hl 2 rfl) ?_
  refine lv_iload_n hx hb dX2_decode_1 rfl (lv_at hl 3 rfl) ?_
  have hPc := hP.sub (ws' := [(nu, .inr (5, [.ref au, .int lu])), (au, .inl (cI, cap, .inl fu))]) [5, 6] rfl
  have hDc := hD.sub (ws' := [(nu, .inr (5, [.ref au, .int lu])), (au, .inl (cI, cap, .inl fu))]) [5, 6] (by decide +kernel) rfl
  have hFc := va_free (wc := [(nu, .inr (5, [.ref au, .int lu])), (au, .inl (cI, cap, .inl fu))]) hD hS hA [5, 6] rfl
  refine va_calli (va_runV (As := [.int fr]) (rest := []) ⟨hx, hb, hml, hown, hts⟩ (m_X5_get l dC dI cI cS s.heap.size nu au cap lu fu fr (g_lu) (by omega)) (cwV 1 hts gX2_decode_X5_get rfl rfl rfl (by decide +kernel) ⟨Nat.le_of_ble_eq_true rfl, Nat.le_of_ble_eq_true rfl⟩) ⟨fun a U g mk q => by obtain ⟨q0, q1, qP, qK, qD⟩ := q; exact ⟨q0, q1, qP, va_K.moved (u := U) (U := U.calling g mk a) (Vm.Alike.refl U.vm) qK, qD⟩, va_recv hK hPc (ci := 5) (q0 := 0) rfl rfl, fun U hU hW => ⟨rfl, by rw [hU], by rw [hU]; exact hPc, va_K.moved hW.alike hK, hDc.weaken (fun _ _ _ _ => trivial)⟩⟩ rfl rfl hl.1 rfl (lv_room (Nat.le_of_ble_eq_true rfl)) dX2_decode_2 ⟨Nat.le_of_ble_eq_true rfl, Nat.le_of_ble_eq_true rfl⟩) hS (fun q _ h => hFc q h) hFc (fun r_1 u t H1 locs ht hvm hw hB hz1 hk1 hSn => ?_)
  subst hw
  obtain ⟨hP1, hD1, hf1_0⟩ := hB
  rw [ht] at hP1
  obtain ⟨hPn, hDn⟩ := va_join (wr := [(oC, .inr (2, [.ref o4, .ref o5])), (o4, .inr (10, [.ref a41, .ref a42, .ref a43, .int l4])), (a41, .inl (cI, 256, .inl f41)), (o5, .inr (10, [.ref a51, .ref a52, .ref a53, .int l5])), (a51, .inl (cI, 256, .inl f51))]) (w1 := [(nu, .inr (5, [.ref au, .int lu])), (au, .inl (cI, cap, .inl fu))]) hP hD [5, 6] [0, 1, 2, 3, 4] rfl rfl (by decide +kernel) (by decide +kernel) hk1 hFc hP1 hD1
  clear hP hD hS hPc hDc hFc hk1 hz1 hvm ht hP1 hD1
  generalize H1 = H at hPn hSn ⊢
  have hP : va_P (dC, dI) vwCl [(oC, .inr (2, [.ref o4, .ref o5])), (o4, .inr (10, [.ref a41, .ref a42, .ref a43, .int l4])), (a41, .inl (cI, 256, .inl f41)), (o5, .inr (10, [.ref a51, .ref a52, .ref a53, .int l5])), (a51, .inl (cI, 256, .inl f51)), (nu, .inr (5, [.ref au, .int lu])), (au, .inl (cI, cap, .inl fu))] H := hPn
  have hD : va_D A [(oC, .inr (2, [.ref o4, .ref o5])), (o4, .inr (10, [.ref a41, .ref a42, .ref a43, .int l4])), (a41, .inl (cI, 256, .inl f41)), (o5, .inr (10, [.ref a51, .ref a52, .ref a53, .int l5])), (a51, .inl (cI, 256, .inl f51)), (nu, .inr (5, [.ref au, .int lu])), (au, .inl (cI, cap, .inl fu))] := hDn
  have hS := hSn
  clear hPn hDn hSn
  refine lv_istore (lv' := [(5, .int r_1), (0, .ref oC), (1, .int cd), (2, .ref nu), (3, .int fr), (4, .int en)]) hx hb dX2_decode_5 hl (by decide) rfl (fun ls hl => ?_)
  refine lv_iload hx hb dX2_decode_7 (lv_at hl 0 rfl) ?_
  refine lv_iconst (v := (-1)) hx hb dX2_decode_9 (by decide) ?_
  refine lv_icmp_eq (tgt := 19) hx hb dX2_decode_10 (by decide) (fun c_2 => ?_) (fun c_2 => ?_)
  · have tc_2 : r_1.toInt = (-1) := v_eq c_2
    refine lv_iconst (v := (-1)) hx hb dX2_decode_19 (by decide) ?_
    have hP9 := hP.sub (ws' := [(oC, .inr (2, [.ref o4, .ref o5])), (o4, .inr (10, [.ref a41, .ref a42, .ref a43, .int l4])), (a41, .inl (cI, 256, .inl f41)), (o5, .inr (10, [.ref a51, .ref a52, .ref a53, .int l5])), (a51, .inl (cI, 256, .inl f51)), (nu, .inr (5, [.ref au, .int lu])), (au, .inl (cI, cap, .inl fu))]) [0, 1, 2, 3, 4, 5, 6] rfl
    have hD9 := hD.sub (ws' := [(oC, .inr (2, [.ref o4, .ref o5])), (o4, .inr (10, [.ref a41, .ref a42, .ref a43, .int l4])), (a41, .inl (cI, 256, .inl f41)), (o5, .inr (10, [.ref a51, .ref a52, .ref a53, .int l5])), (a51, .inl (cI, 256, .inl f51)), (nu, .inr (5, [.ref au, .int lu])), (au, .inl (cI, cap, .inl fu))]) [0, 1, 2, 3, 4, 5, 6] (by decide +kernel) rfl
    rw [hQQ]
    exact W.iret (v := (-1)) hx hb hr (fun t ht hW => ⟨⟨(-1), (-1), rfl, rfl, ⟨by rw [ht]; exact hP9, hD9, Or.inr ⟨rfl, dc_first hf1_0 hfr hen hby (Or.inl c_2)⟩⟩⟩, hS.F ht⟩) hS.2.2 dX2_decode_20
  · have tc_2 : ¬ r_1.toInt = (-1) := v_ne c_2
    refine lv_iload_n hx hb dX2_decode_13 rfl (lv_at hl 4 rfl) ?_
    refine lv_iload hx hb dX2_decode_14 (lv_at hl 5 rfl) ?_
    refine lv_icmp_lt (tgt := 21) hx hb dX2_decode_16 (by decide) (fun c_3 => ?_) (fun c_3 => ?_)
    · have tc_3 : fr.toInt < en.toInt := v_lt c_3
      have rw3_0 := v_rng fr
      have hq1 : r_1 = fu fr.toNatClampNeg := F_get_f hf1_0 (by omega) (by omega)
      have hr1 : -1 ≤ r_1.toInt ∧ r_1.toInt ≤ 255 := by rw [get_bt (n := en.toInt) (k := fr.toNatClampNeg) hf1_0 (by omega) (by omega) hen]; exact bt_r hby _
      refine lv_aload_n hx hb dX2_decode_21 rfl (lv_at hl 1 rfl) ?_
      refine lv_iload_n hx hb dX2_decode_22 rfl (lv_at hl 2 rfl) ?_
      refine lv_iload hx hb dX2_decode_23 (lv_at hl 0 rfl) ?_
      have hPc := hP.sub (ws' := [(oC, .inr (2, [.ref o4, .ref o5])), (o4, .inr (10, [.ref a41, .ref a42, .ref a43, .int l4])), (a41, .inl (cI, 256, .inl f41)), (o5, .inr (10, [.ref a51, .ref a52, .ref a53, .int l5])), (a51, .inl (cI, 256, .inl f51))]) [0, 1, 2, 3, 4] rfl
      have hDc := hD.sub (ws' := [(oC, .inr (2, [.ref o4, .ref o5])), (o4, .inr (10, [.ref a41, .ref a42, .ref a43, .int l4])), (a41, .inl (cI, 256, .inl f41)), (o5, .inr (10, [.ref a51, .ref a52, .ref a53, .int l5])), (a51, .inl (cI, 256, .inl f51))]) [0, 1, 2, 3, 4] (by decide +kernel) rfl
      have hFc := va_free (wc := [(oC, .inr (2, [.ref o4, .ref o5])), (o4, .inr (10, [.ref a41, .ref a42, .ref a43, .int l4])), (a41, .inl (cI, 256, .inl f41)), (o5, .inr (10, [.ref a51, .ref a52, .ref a53, .int l5])), (a51, .inl (cI, 256, .inl f51))]) hD hS hA [0, 1, 2, 3, 4] rfl
      refine va_calli (va_runV (As := [.int cd, .int r_1]) (rest := []) ⟨hx, hb, hml, hown, hts⟩ (f_X2_letterAlone l dC dI cI cS H.size oC o4 o5 a41 a42 a43 a51 a52 a53 l4 f41 l5 f51 cd r_1 (by omega)) (cwV 2 hts gX2_decode_X2_letterAlone rfl rfl rfl (by decide +kernel) ⟨Nat.le_of_ble_eq_true rfl, Nat.le_of_ble_eq_true rfl⟩) ⟨fun a U g mk q => by obtain ⟨q0, q1, qP, qK, qD⟩ := q; exact ⟨q0, q1, qP, va_K.moved (u := U) (U := U.calling g mk a) (Vm.Alike.refl U.vm) qK, qD⟩, va_recv hK hPc (ci := 2) (q0 := 0) rfl rfl, fun U hU hW => ⟨rfl, by rw [hU], by rw [hU]; exact hPc, va_K.moved hW.alike hK, hDc.weaken (fun _ _ _ _ => trivial)⟩⟩ rfl rfl hl.1 rfl (lv_room (Nat.le_of_ble_eq_true rfl)) dX2_decode_25 ⟨Nat.le_of_ble_eq_true rfl, Nat.le_of_ble_eq_true rfl⟩) hS (fun q _ h => hFc q h) hFc (fun r_4 u t H1 locs ht hvm hw hB hz1 hk1 hSn => ?_)
      subst hw
      obtain ⟨hP1, hD1, hf4_0⟩ := hB
      rw [ht] at hP1
      obtain ⟨hPn, hDn⟩ := va_join (wr := [(nu, .inr (5, [.ref au, .int lu])), (au, .inl (cI, cap, .inl fu))]) (w1 := [(oC, .inr (2, [.ref o4, .ref o5])), (o4, .inr (10, [.ref a41, .ref a42, .ref a43, .int l4])), (a41, .inl (cI, 256, .inl f41)), (o5, .inr (10, [.ref a51, .ref a52, .ref a53, .int l5])), (a51, .inl (cI, 256, .inl f51))]) hP hD [0, 1, 2, 3, 4] [5, 6] rfl rfl (by decide +kernel) (by decide +kernel) hk1 hFc hP1 hD1
      clear hP hD hS hPc hDc hFc hk1 hz1 hvm ht hP1 hD1
      generalize H1 = H at hPn hSn ⊢
      have hP : va_P (dC, dI) vwCl [(nu, .inr (5, [.ref au, .int lu])), (au, .inl (cI, cap, .inl fu)), (oC, .inr (2, [.ref o4, .ref o5])), (o4, .inr (10, [.ref a41, .ref a42, .ref a43, .int l4])), (a41, .inl (cI, 256, .inl f41)), (o5, .inr (10, [.ref a51, .ref a52, .ref a53, .int l5])), (a51, .inl (cI, 256, .inl f51))] H := hPn
      have hD : va_D A [(nu, .inr (5, [.ref au, .int lu])), (au, .inl (cI, cap, .inl fu)), (oC, .inr (2, [.ref o4, .ref o5])), (o4, .inr (10, [.ref a41, .ref a42, .ref a43, .int l4])), (a41, .inl (cI, 256, .inl f41)), (o5, .inr (10, [.ref a51, .ref a52, .ref a53, .int l5])), (a51, .inl (cI, 256, .inl f51))] := hDn
      have hS := hSn
      clear hPn hDn hSn
      refine lv_istore (lv' := [(6, .int r_4), (5, .int r_1), (0, .ref oC), (1, .int cd), (2, .ref nu), (3, .int fr), (4, .int en)]) hx hb dX2_decode_28 hl (by decide) rfl (fun ls hl => ?_)
      refine lv_iload hx hb dX2_decode_30 (lv_at hl 0 rfl) ?_
      refine lv_iconst (v := (-1)) hx hb dX2_decode_32 (by decide) ?_
      refine lv_icmp_eq (tgt := 43) hx hb dX2_decode_33 (by decide) (fun c_5 => ?_) (fun c_5 => ?_)
      · have tc_5 : r_4.toInt = (-1) := v_eq c_5
        refine lv_iload_n hx hb dX2_decode_43 rfl (lv_at hl 3 rfl) ?_
        refine lv_iconst (v := 2) hx hb dX2_decode_44 (by decide) ?_
        refine lv_icmp_ne (tgt := 56) hx hb dX2_decode_45 (by decide) (fun c_6 => ?_) (fun c_6 => ?_)
        · have tc_6 : ¬ cd.toInt = 2 := v_ne c_6
          refine lv_iload_n hx hb dX2_decode_56 rfl (lv_at hl 3 rfl) ?_
          refine lv_iconst (v := 3) hx hb dX2_decode_57 (by decide) ?_
          refine lv_icmp_ne (tgt := 71) hx hb dX2_decode_58 (by decide) (fun c_7 => ?_) (fun c_7 => ?_)
          · have tc_7 : ¬ cd.toInt = 3 := v_ne c_7
            refine lv_iconst (v := (-1)) hx hb dX2_decode_71 (by decide) ?_
            have hP9 := hP.sub (ws' := [(oC, .inr (2, [.ref o4, .ref o5])), (o4, .inr (10, [.ref a41, .ref a42, .ref a43, .int l4])), (a41, .inl (cI, 256, .inl f41)), (o5, .inr (10, [.ref a51, .ref a52, .ref a53, .int l5])), (a51, .inl (cI, 256, .inl f51)), (nu, .inr (5, [.ref au, .int lu])), (au, .inl (cI, cap, .inl fu))]) [2, 3, 4, 5, 6, 0, 1] rfl
            have hD9 := hD.sub (ws' := [(oC, .inr (2, [.ref o4, .ref o5])), (o4, .inr (10, [.ref a41, .ref a42, .ref a43, .int l4])), (a41, .inl (cI, 256, .inl f41)), (o5, .inr (10, [.ref a51, .ref a52, .ref a53, .int l5])), (a51, .inl (cI, 256, .inl f51)), (nu, .inr (5, [.ref au, .int lu])), (au, .inl (cI, cap, .inl fu))]) [2, 3, 4, 5, 6, 0, 1] (by decide +kernel) rfl
            rw [hQQ]
            exact W.iret (v := (-1)) hx hb hr (fun t ht hW => ⟨⟨(-1), (-1), rfl, rfl, ⟨by rw [ht]; exact hP9, hD9, Or.inr ⟨rfl, Dec_no (by rw [← hq1]; exact hf4_0.symm.trans c_5) (fun e9 => by omega) (fun e9 => by omega)⟩⟩⟩, hS.F ht⟩) hS.2.2 dX2_decode_72
          · have tc_7 : cd.toInt = 3 := v_eq c_7
            refine lv_aload_n hx hb dX2_decode_61 rfl (lv_at hl 4 rfl) ?_
            refine lv_iload_n hx hb dX2_decode_62 rfl (lv_at hl 5 rfl) ?_
            refine lv_iload hx hb dX2_decode_63 (lv_at hl 6 rfl) ?_
            have hPc := hP.sub (ws' := [(nu, .inr (5, [.ref au, .int lu])), (au, .inl (cI, cap, .inl fu))]) [0, 1] rfl
            have hDc := hD.sub (ws' := [(nu, .inr (5, [.ref au, .int lu])), (au, .inl (cI, cap, .inl fu))]) [0, 1] (by decide +kernel) rfl
            have hFc := va_free (wc := [(nu, .inr (5, [.ref au, .int lu])), (au, .inl (cI, cap, .inl fu))]) hD hS hA [0, 1] rfl
            refine va_calli (va_runS (As := [.ref nu, .int fr, .int en]) (rest := []) ⟨hx, hb, hml, hown, hts⟩ (f_X2_decodeNumber l dC dI cI cS H.size nu au cap lu fu fr en (g_lu) (by omega) (by omega) (by omega) (by omega)) (va_cwS 3 hts gX2_decode_X2_decodeNumber rfl rfl rfl (by decide +kernel) ⟨Nat.le_of_ble_eq_true rfl, Nat.le_of_ble_eq_true rfl⟩) ⟨fun a U g mk q => by obtain ⟨q0, q1, qP, qK, qD, qN0⟩ := q; exact ⟨q0, q1, qP, va_K.moved (u := U) (U := U.calling g mk a) (Vm.Alike.refl U.vm) qK, qD, va_Nw.same rfl rfl qN0⟩, fun U hU hW => ⟨rfl, by rw [hU], by rw [hU]; exact hPc, va_K.moved hW.alike hK, hDc.weaken (fun _ _ _ _ => trivial), va_Nw.warmM hW hN52⟩⟩ rfl rfl hl.1 rfl (lv_room (Nat.le_of_ble_eq_true rfl)) dX2_decode_65 ⟨Nat.le_of_ble_eq_true rfl, Nat.le_of_ble_eq_true rfl⟩) hS (fun q _ h => hFc q h) hFc (fun r_8 u t H1 locs ht hvm hw hB hz1 hk1 hSn => ?_)
            subst hw
            obtain ⟨hP1, hD1, hf8_0⟩ := hB
            rw [ht] at hP1
            obtain ⟨hPn, hDn⟩ := va_join (wr := [(oC, .inr (2, [.ref o4, .ref o5])), (o4, .inr (10, [.ref a41, .ref a42, .ref a43, .int l4])), (a41, .inl (cI, 256, .inl f41)), (o5, .inr (10, [.ref a51, .ref a52, .ref a53, .int l5])), (a51, .inl (cI, 256, .inl f51))]) (w1 := [(nu, .inr (5, [.ref au, .int lu])), (au, .inl (cI, cap, .inl fu))]) hP hD [0, 1] [2, 3, 4, 5, 6] rfl rfl (by decide +kernel) (by decide +kernel) hk1 hFc hP1 hD1
            clear hP hD hS hPc hDc hFc hk1 hz1 hvm ht hP1 hD1
            generalize H1 = H at hPn hSn ⊢
            have hP : va_P (dC, dI) vwCl [(oC, .inr (2, [.ref o4, .ref o5])), (o4, .inr (10, [.ref a41, .ref a42, .ref a43, .int l4])), (a41, .inl (cI, 256, .inl f41)), (o5, .inr (10, [.ref a51, .ref a52, .ref a53, .int l5])), (a51, .inl (cI, 256, .inl f51)), (nu, .inr (5, [.ref au, .int lu])), (au, .inl (cI, cap, .inl fu))] H := hPn
            have hD : va_D A [(oC, .inr (2, [.ref o4, .ref o5])), (o4, .inr (10, [.ref a41, .ref a42, .ref a43, .int l4])), (a41, .inl (cI, 256, .inl f41)), (o5, .inr (10, [.ref a51, .ref a52, .ref a53, .int l5])), (a51, .inl (cI, 256, .inl f51)), (nu, .inr (5, [.ref au, .int lu])), (au, .inl (cI, cap, .inl fu))] := hDn
            have hS := hSn
            clear hPn hDn hSn
            refine lv_goto (tgt := 72) hx hb dX2_decode_68 (by decide) ?_
            have hP9 := hP.sub (ws' := [(oC, .inr (2, [.ref o4, .ref o5])), (o4, .inr (10, [.ref a41, .ref a42, .ref a43, .int l4])), (a41, .inl (cI, 256, .inl f41)), (o5, .inr (10, [.ref a51, .ref a52, .ref a53, .int l5])), (a51, .inl (cI, 256, .inl f51)), (nu, .inr (5, [.ref au, .int lu])), (au, .inl (cI, cap, .inl fu))]) [0, 1, 2, 3, 4, 5, 6] rfl
            have hD9 := hD.sub (ws' := [(oC, .inr (2, [.ref o4, .ref o5])), (o4, .inr (10, [.ref a41, .ref a42, .ref a43, .int l4])), (a41, .inl (cI, 256, .inl f41)), (o5, .inr (10, [.ref a51, .ref a52, .ref a53, .int l5])), (a51, .inl (cI, 256, .inl f51)), (nu, .inr (5, [.ref au, .int lu])), (au, .inl (cI, cap, .inl fu))]) [0, 1, 2, 3, 4, 5, 6] (by decide +kernel) rfl
            rw [hQQ]
            exact W.iret (v := r_8) hx hb hr (fun t ht hW => ⟨⟨r_8, r_8, rfl, rfl, ⟨by rw [ht]; exact hP9, hD9, dc_num hf8_0 (by omega) (by omega) (by rw [← hq1]; exact hf4_0.symm.trans c_5)⟩⟩, hS.F ht⟩) hS.2.2 dX2_decode_72
        · have tc_6 : cd.toInt = 2 := v_eq c_6
          refine lv_aload_n hx hb dX2_decode_48 rfl (lv_at hl 4 rfl) ?_
          refine lv_iload_n hx hb dX2_decode_49 rfl (lv_at hl 5 rfl) ?_
          refine lv_iload hx hb dX2_decode_50 (lv_at hl 6 rfl) ?_
          have hPc := hP.sub (ws' := [(nu, .inr (5, [.ref au, .int lu])), (au, .inl (cI, cap, .inl fu))]) [0, 1] rfl
          have hDc := hD.sub (ws' := [(nu, .inr (5, [.ref au, .int lu])), (au, .inl (cI, cap, .inl fu))]) [0, 1] (by decide +kernel) rfl
          have hFc := va_free (wc := [(nu, .inr (5, [.ref au, .int lu])), (au, .inl (cI, cap, .inl fu))]) hD hS hA [0, 1] rfl
          refine va_calli (va_runS (As := [.ref nu, .int fr, .int en]) (rest := []) ⟨hx, hb, hml, hown, hts⟩ (f_X2_decodeMany l dC dI cI cS H.size nu au cap lu fu fr en (g_lu) (by omega) (by omega) (by omega) (by omega)) (va_cwS 3 hts gX2_decode_X2_decodeMany rfl rfl rfl (by decide +kernel) ⟨Nat.le_of_ble_eq_true rfl, Nat.le_of_ble_eq_true rfl⟩) ⟨fun a U g mk q => by obtain ⟨q0, q1, qP, qK, qD, qN0⟩ := q; exact ⟨q0, q1, qP, va_K.moved (u := U) (U := U.calling g mk a) (Vm.Alike.refl U.vm) qK, qD, va_Nw.same rfl rfl qN0⟩, fun U hU hW => ⟨rfl, by rw [hU], by rw [hU]; exact hPc, va_K.moved hW.alike hK, hDc.weaken (fun _ _ _ _ => trivial), va_Nw.warmM hW hN52⟩⟩ rfl rfl hl.1 rfl (lv_room (Nat.le_of_ble_eq_true rfl)) dX2_decode_52 ⟨Nat.le_of_ble_eq_true rfl, Nat.le_of_ble_eq_true rfl⟩) hS (fun q _ h => hFc q h) hFc (fun r_9 u t H1 locs ht hvm hw hB hz1 hk1 hSn => ?_)
          subst hw
          obtain ⟨hP1, hD1, hf9_0⟩ := hB
          rw [ht] at hP1
          obtain ⟨hPn, hDn⟩ := va_join (wr := [(oC, .inr (2, [.ref o4, .ref o5])), (o4, .inr (10, [.ref a41, .ref a42, .ref a43, .int l4])), (a41, .inl (cI, 256, .inl f41)), (o5, .inr (10, [.ref a51, .ref a52, .ref a53, .int l5])), (a51, .inl (cI, 256, .inl f51))]) (w1 := [(nu, .inr (5, [.ref au, .int lu])), (au, .inl (cI, cap, .inl fu))]) hP hD [0, 1] [2, 3, 4, 5, 6] rfl rfl (by decide +kernel) (by decide +kernel) hk1 hFc hP1 hD1
          clear hP hD hS hPc hDc hFc hk1 hz1 hvm ht hP1 hD1
          generalize H1 = H at hPn hSn ⊢
          have hP : va_P (dC, dI) vwCl [(oC, .inr (2, [.ref o4, .ref o5])), (o4, .inr (10, [.ref a41, .ref a42, .ref a43, .int l4])), (a41, .inl (cI, 256, .inl f41)), (o5, .inr (10, [.ref a51, .ref a52, .ref a53, .int l5])), (a51, .inl (cI, 256, .inl f51)), (nu, .inr (5, [.ref au, .int lu])), (au, .inl (cI, cap, .inl fu))] H := hPn
          have hD : va_D A [(oC, .inr (2, [.ref o4, .ref o5])), (o4, .inr (10, [.ref a41, .ref a42, .ref a43, .int l4])), (a41, .inl (cI, 256, .inl f41)), (o5, .inr (10, [.ref a51, .ref a52, .ref a53, .int l5])), (a51, .inl (cI, 256, .inl f51)), (nu, .inr (5, [.ref au, .int lu])), (au, .inl (cI, cap, .inl fu))] := hDn
          have hS := hSn
          clear hPn hDn hSn
          have hP9 := hP.sub (ws' := [(oC, .inr (2, [.ref o4, .ref o5])), (o4, .inr (10, [.ref a41, .ref a42, .ref a43, .int l4])), (a41, .inl (cI, 256, .inl f41)), (o5, .inr (10, [.ref a51, .ref a52, .ref a53, .int l5])), (a51, .inl (cI, 256, .inl f51)), (nu, .inr (5, [.ref au, .int lu])), (au, .inl (cI, cap, .inl fu))]) [0, 1, 2, 3, 4, 5, 6] rfl
          have hD9 := hD.sub (ws' := [(oC, .inr (2, [.ref o4, .ref o5])), (o4, .inr (10, [.ref a41, .ref a42, .ref a43, .int l4])), (a41, .inl (cI, 256, .inl f41)), (o5, .inr (10, [.ref a51, .ref a52, .ref a53, .int l5])), (a51, .inl (cI, 256, .inl f51)), (nu, .inr (5, [.ref au, .int lu])), (au, .inl (cI, cap, .inl fu))]) [0, 1, 2, 3, 4, 5, 6] (by decide +kernel) rfl
          rw [hQQ]
          exact W.iret (v := r_9) hx hb hr (fun t ht hW => ⟨⟨r_9, r_9, rfl, rfl, ⟨by rw [ht]; exact hP9, hD9, dc_many hf9_0 (by omega) (by omega) (by rw [← hq1]; exact hf4_0.symm.trans c_5)⟩⟩, hS.F ht⟩) hS.2.2 dX2_decode_55
      · have tc_5 : ¬ r_4.toInt = (-1) := v_ne c_5
        have hr4 : -1 ≤ r_4.toInt ∧ r_4.toInt ≤ 65535 := by rw [hf4_0]; exact alF_r hL4 hL5 (by omega) (by omega)
        refine lv_iload hx hb dX2_decode_36 (lv_at hl 0 rfl) ?_
        refine lv_iconst (v := 1) hx hb dX2_decode_38 (by decide) ?_
        have hPc := hP.sub (ws' := []) [] rfl
        have hDc := hD.sub (ws' := []) [] (by decide +kernel) rfl
        have hFc := va_free (wc := []) hD hS hA [] rfl
        refine va_calli (va_runS (As := [.int r_4, .int 1]) (rest := []) ⟨hx, hb, hml, hown, hts⟩ (f_X2_found l dC dI cI cS H.size r_4 1 (by omega) (by decide)) (va_cwS 2 hts gX2_decode_X2_found rfl rfl rfl (by decide +kernel) ⟨Nat.le_of_ble_eq_true rfl, Nat.le_of_ble_eq_true rfl⟩) ⟨fun a U g mk q => by obtain ⟨q0, q1, qP, qK, qD⟩ := q; exact ⟨q0, q1, qP, va_K.moved (u := U) (U := U.calling g mk a) (Vm.Alike.refl U.vm) qK, qD⟩, fun U hU hW => ⟨rfl, by rw [hU], by rw [hU]; exact hPc, va_K.moved hW.alike hK, hDc.weaken (fun _ _ _ _ => trivial)⟩⟩ rfl rfl hl.1 rfl (lv_room (Nat.le_of_ble_eq_true rfl)) dX2_decode_39 ⟨Nat.le_of_ble_eq_true rfl, Nat.le_of_ble_eq_true rfl⟩) hS (fun q _ h => hFc q h) hFc (fun r_10 u t H1 locs ht hvm hw hB hz1 hk1 hSn => ?_)
        subst hw
        obtain ⟨hP1, hD1, hf10_0⟩ := hB
        rw [ht] at hP1
        obtain ⟨hPn, hDn⟩ := va_join (wr := [(nu, .inr (5, [.ref au, .int lu])), (au, .inl (cI, cap, .inl fu)), (oC, .inr (2, [.ref o4, .ref o5])), (o4, .inr (10, [.ref a41, .ref a42, .ref a43, .int l4])), (a41, .inl (cI, 256, .inl f41)), (o5, .inr (10, [.ref a51, .ref a52, .ref a53, .int l5])), (a51, .inl (cI, 256, .inl f51))]) (w1 := []) hP hD [] [0, 1, 2, 3, 4, 5, 6] rfl rfl (by decide +kernel) (by decide +kernel) hk1 hFc hP1 hD1
        clear hP hD hS hPc hDc hFc hk1 hz1 hvm ht hP1 hD1
        generalize H1 = H at hPn hSn ⊢
        have hP : va_P (dC, dI) vwCl [(nu, .inr (5, [.ref au, .int lu])), (au, .inl (cI, cap, .inl fu)), (oC, .inr (2, [.ref o4, .ref o5])), (o4, .inr (10, [.ref a41, .ref a42, .ref a43, .int l4])), (a41, .inl (cI, 256, .inl f41)), (o5, .inr (10, [.ref a51, .ref a52, .ref a53, .int l5])), (a51, .inl (cI, 256, .inl f51))] H := hPn
        have hD : va_D A [(nu, .inr (5, [.ref au, .int lu])), (au, .inl (cI, cap, .inl fu)), (oC, .inr (2, [.ref o4, .ref o5])), (o4, .inr (10, [.ref a41, .ref a42, .ref a43, .int l4])), (a41, .inl (cI, 256, .inl f41)), (o5, .inr (10, [.ref a51, .ref a52, .ref a53, .int l5])), (a51, .inl (cI, 256, .inl f51))] := hDn
        have hS := hSn
        clear hPn hDn hSn
        have hP9 := hP.sub (ws' := [(oC, .inr (2, [.ref o4, .ref o5])), (o4, .inr (10, [.ref a41, .ref a42, .ref a43, .int l4])), (a41, .inl (cI, 256, .inl f41)), (o5, .inr (10, [.ref a51, .ref a52, .ref a53, .int l5])), (a51, .inl (cI, 256, .inl f51)), (nu, .inr (5, [.ref au, .int lu])), (au, .inl (cI, cap, .inl fu))]) [2, 3, 4, 5, 6, 0, 1] rfl
        have hD9 := hD.sub (ws' := [(oC, .inr (2, [.ref o4, .ref o5])), (o4, .inr (10, [.ref a41, .ref a42, .ref a43, .int l4])), (a41, .inl (cI, 256, .inl f41)), (o5, .inr (10, [.ref a51, .ref a52, .ref a53, .int l5])), (a51, .inl (cI, 256, .inl f51)), (nu, .inr (5, [.ref au, .int lu])), (au, .inl (cI, cap, .inl fu))]) [2, 3, 4, 5, 6, 0, 1] (by decide +kernel) rfl
        rw [hQQ]
        exact W.iret (v := r_10) hx hb hr (fun t ht hW => ⟨⟨r_10, r_10, rfl, rfl, ⟨by rw [ht]; exact hP9, hD9, Or.inl ⟨1, r_4, ⟨by omega, Or.inl ⟨rfl, by rw [← hq1]; exact hf4_0.symm, c_5⟩⟩, by omega, by omega, by omega⟩⟩⟩, hS.F ht⟩) hS.2.2 dX2_decode_42
    · have tc_3 : en.toInt ≤ fr.toInt := v_nlt c_3
      have rw3_0 := v_rng fr
      refine lv_iconst (v := (-1)) hx hb dX2_decode_19 (by decide) ?_
      have hP9 := hP.sub (ws' := [(oC, .inr (2, [.ref o4, .ref o5])), (o4, .inr (10, [.ref a41, .ref a42, .ref a43, .int l4])), (a41, .inl (cI, 256, .inl f41)), (o5, .inr (10, [.ref a51, .ref a52, .ref a53, .int l5])), (a51, .inl (cI, 256, .inl f51)), (nu, .inr (5, [.ref au, .int lu])), (au, .inl (cI, cap, .inl fu))]) [0, 1, 2, 3, 4, 5, 6] rfl
      have hD9 := hD.sub (ws' := [(oC, .inr (2, [.ref o4, .ref o5])), (o4, .inr (10, [.ref a41, .ref a42, .ref a43, .int l4])), (a41, .inl (cI, 256, .inl f41)), (o5, .inr (10, [.ref a51, .ref a52, .ref a53, .int l5])), (a51, .inl (cI, 256, .inl f51)), (nu, .inr (5, [.ref au, .int lu])), (au, .inl (cI, cap, .inl fu))]) [0, 1, 2, 3, 4, 5, 6] (by decide +kernel) rfl
      rw [hQQ]
      exact W.iret (v := (-1)) hx hb hr (fun t ht hW => ⟨⟨(-1), (-1), rfl, rfl, ⟨by rw [ht]; exact hP9, hD9, Or.inr ⟨rfl, dc_first hf1_0 hfr hen hby (Or.inr (by omega))⟩⟩⟩, hS.F ht⟩) hS.2.2 dX2_decode_20

set_option maxHeartbeats 40000000 in
set_option maxRecDepth 100000 in
theorem f_X7_readExactly (l : Launch) (dC : Nat → ClassId) (dI : Nat → Nat → Nat) (cI cS : ClassId) (sz : Nat) (oP : Nat) (nz : Nat) (nd : Nat) (oC : Nat) (nB : Nat) (az : Nat) (ad : Nat) (o4 : Nat) (o5 : Nat) (a41 : Nat) (a42 : Nat) (a43 : Nat) (a51 : Nat) (a52 : Nat) (a53 : Nat) (cz : Nat) (ft : Int32) (lz : Int32) (fz : Nat → Int32) (ld : Int32) (fd : Nat → Int32) (l4 : Int32) (f41 : Nat → Int32) (l5 : Int32) (f51 : Nat → Int32) (cd : Int32) (g_lz : 0 ≤ lz.toInt ∧ lz.toInt ≤ (cz : Int)) (g_ld : 0 ≤ ld.toInt ∧ ld.toInt ≤ 300) (hcz : cz ≤ 2400) (hby : prg lz.toInt 0 255 fz) (hL4 : prg 256 (-1) 65535 f41) (hL5 : prg 256 (-1) 65535 f51) : Met l yX7_readExactly wsX7_readExactly ({ frames := 3, cells := 0, slots := 0, locals := 74 } : Room) (va_Pc [.ref oP, .int cd, .ref nz, .ref nd] (fun U => U.heap.size = sz ∧ va_P (dC, dI) vwCl [(oP, .inr (7, [.ref oC, .ref nB, .int ft])), (nz, .inr (5, [.ref az, .int lz])), (az, .inl (cI, cz, .inl fz)), (nd, .inr (5, [.ref ad, .int ld])), (ad, .inl (cI, 300, .inl fd)), (oC, .inr (2, [.ref o4, .ref o5])), (o4, .inr (10, [.ref a41, .ref a42, .ref a43, .int l4])), (a41, .inl (cI, 256, .inl f41)), (o5, .inr (10, [.ref a51, .ref a52, .ref a53, .int l5])), (a51, .inl (cI, 256, .inl f51))] U.heap ∧ va_K (dC, dI) vwCl [(cI, .int), (cS, .short)] U ∧ va_D (fun _ => True) [(oP, .inr (7, [.ref oC, .ref nB, .int ft])), (nz, .inr (5, [.ref az, .int lz])), (az, .inl (cI, cz, .inl fz)), (nd, .inr (5, [.ref ad, .int ld])), (ad, .inl (cI, 300, .inl fd)), (oC, .inr (2, [.ref o4, .ref o5])), (o4, .inr (10, [.ref a41, .ref a42, .ref a43, .int l4])), (a41, .inl (cI, 256, .inl f41)), (o5, .inr (10, [.ref a51, .ref a52, .ref a53, .int l5])), (a51, .inl (cI, 256, .inl f51))] ∧ va_Nw (.methodLinkNest RX2 52 yX11_isLetter "TextMender") U)) (va_Qi (fun (r : Int32) (u : Int32) => r = u) (fun (r : Int32) t => ∃ (ft' : Int32) (ld' : Int32) (fd' : Nat → Int32), va_P (dC, dI) vwCl [(oP, .inr (7, [.ref oC, .ref nB, .int ft'])), (nz, .inr (5, [.ref az, .int lz])), (az, .inl (cI, cz, .inl fz)), (nd, .inr (5, [.ref ad, .int ld'])), (ad, .inl (cI, 300, .inl fd')), (oC, .inr (2, [.ref o4, .ref o5])), (o4, .inr (10, [.ref a41, .ref a42, .ref a43, .int l4])), (a41, .inl (cI, 256, .inl f41)), (o5, .inr (10, [.ref a51, .ref a52, .ref a53, .int l5])), (a51, .inl (cI, 256, .inl f51))] t.heap ∧ va_D (va_A [(oP, .inr (7, [.ref oC, .ref nB, .int ft])), (nz, .inr (5, [.ref az, .int lz])), (az, .inl (cI, cz, .inl fz)), (nd, .inr (5, [.ref ad, .int ld])), (ad, .inl (cI, 300, .inl fd)), (oC, .inr (2, [.ref o4, .ref o5])), (o4, .inr (10, [.ref a41, .ref a42, .ref a43, .int l4])), (a41, .inl (cI, 256, .inl f41)), (o5, .inr (10, [.ref a51, .ref a52, .ref a53, .int l5])), (a51, .inl (cI, 256, .inl f51))] sz) [(oP, .inr (7, [.ref oC, .ref nB, .int ft'])), (nz, .inr (5, [.ref az, .int lz])), (az, .inl (cI, cz, .inl fz)), (nd, .inr (5, [.ref ad, .int ld'])), (ad, .inl (cI, 300, .inl fd')), (oC, .inr (2, [.ref o4, .ref o5])), (o4, .inr (10, [.ref a41, .ref a42, .ref a43, .int l4])), (a41, .inl (cI, 256, .inl f41)), (o5, .inr (10, [.ref a51, .ref a52, .ref a53, .int l5])), (a51, .inl (cI, 256, .inl f51))] ∧ (0 ≤ ld'.toInt ∧ ld'.toInt ≤ 300) ∧ (0 ≤ r.toInt ∧ r.toInt ≤ 1) ∧ (F_rx r ft' ld' fd' (dl cd f41 f51 fz lz.toInt) (dx cd f41 f51 fz lz.toInt) lz.toInt)) (va_A [(oP, .inr (7, [.ref oC, .ref nB, .int ft])), (nz, .inr (5, [.ref az, .int lz])), (az, .inl (cI, cz, .inl fz)), (nd, .inr (5, [.ref ad, .int ld])), (ad, .inl (cI, 300, .inl fd)), (oC, .inr (2, [.ref o4, .ref o5])), (o4, .inr (10, [.ref a41, .ref a42, .ref a43, .int l4])), (a41, .inl (cI, 256, .inl f41)), (o5, .inr (10, [.ref a51, .ref a52, .ref a53, .int l5])), (a51, .inl (cI, 256, .inl f51))] sz)) 0 0 (va_A [(oP, .inr (7, [.ref oC, .ref nB, .int ft])), (nz, .inr (5, [.ref az, .int lz])), (az, .inl (cI, cz, .inl fz)), (nd, .inr (5, [.ref ad, .int ld])), (ad, .inl (cI, 300, .inl fd)), (oC, .inr (2, [.ref o4, .ref o5])), (o4, .inr (10, [.ref a41, .ref a42, .ref a43, .int l4])), (a41, .inl (cI, 256, .inl f41)), (o5, .inr (10, [.ref a51, .ref a52, .ref a53, .int l5])), (a51, .inl (cI, 256, .inl f51))] sz) := by
  refine Met.ofW (cc := cX7_readExactly) (maxL := 7) (ret := (some .boolean)) (by decide) rfl ?_
  intro p e s m args below meth c s₁ B hml hv
  obtain ⟨rfl, hsz, hP, hK, hD0, hN52⟩ := hv
  have hx := B.exec
  have hb := B.bytes
  have hr := B.returns
  have hts := atoms_spec (ws := wsX7_readExactly) B.pre
  have hown : s.vm.findClass RX7 = some m.cls := findClass_of_methodNamed B.named
  have hlocks := B.notSynchronized
  have in_X7 : ∀ w ∈ wsX70, w ∈ wsX7_readExactly := fun _ h => List.mem_cons_of_mem _ (List.mem_append_left _ (List.mem_append_left _ (List.mem_append_left _ (List.mem_append_right _ (h)))))
  subst hsz
  have hD := hD0.self (sz := s.heap.size)
  generalize hAe : va_A [(oP, .inr (7, [.ref oC, .ref nB, .int ft])), (nz, .inr (5, [.ref az, .int lz])), (az, .inl (cI, cz, .inl fz)), (nd, .inr (5, [.ref ad, .int ld])), (ad, .inl (cI, 300, .inl fd)), (oC, .inr (2, [.ref o4, .ref o5])), (o4, .inr (10, [.ref a41, .ref a42, .ref a43, .int l4])), (a41, .inl (cI, 256, .inl f41)), (o5, .inr (10, [.ref a51, .ref a52, .ref a53, .int l5])), (a51, .inl (cI, 256, .inl f51))] s.heap.size = A at hD ⊢
  have hA : ∀ q : Nat, s.heap.size ≤ q → A q := fun q h => by rw [← hAe]; exact Or.inr h
  have hS : va_S A s.heap s.heap [] := va_S.rf
  have hP : va_P (dC, dI) vwCl [(oP, .inr (7, [.ref oC, .ref nB, .int ft])), (nz, .inr (5, [.ref az, .int lz])), (az, .inl (cI, cz, .inl fz)), (nd, .inr (5, [.ref ad, .int ld])), (ad, .inl (cI, 300, .inl fd)), (oC, .inr (2, [.ref o4, .ref o5])), (o4, .inr (10, [.ref a41, .ref a42, .ref a43, .int l4])), (a41, .inl (cI, 256, .inl f41)), (o5, .inr (10, [.ref a51, .ref a52, .ref a53, .int l5])), (a51, .inl (cI, 256, .inl f51))] s.heap := hP
  have hl := lv_entry ([.ref oP, .int cd, .ref nz, .ref nd]) (n := 7) (Nat.le_of_ble_eq_true rfl)
  rw [lg_entry_eq]
  generalize (lg_sl ([.ref oP, .int cd, .ref nz, .ref nd]) ++ List.replicate (7 - (lg_sl ([.ref oP, .int cd, .ref nz, .ref nd])).length) Slot.unset).toArray = ls at hl ⊢
  have hl : lv_has ls 7 [(0, .ref oP), (1, .int cd), (2, .ref nz), (3, .ref nd)] := hl
  obtain ⟨QQ, hQQ⟩ : ∃ QQ : Array Value → State → Outcome → State → Prop, QQ = va_Qi (fun (r : Int32) (u : Int32) => r = u) (fun (r : Int32) t => ∃ (ft' : Int32) (ld' : Int32) (fd' : Nat → Int32), va_P (dC, dI) vwCl [(oP, .inr (7, [.ref oC, .ref nB, .int ft'])), (nz, .inr (5, [.ref az, .int lz])), (az, .inl (cI, cz, .inl fz)), (nd, .inr (5, [.ref ad, .int ld'])), (ad, .inl (cI, 300, .inl fd')), (oC, .inr (2, [.ref o4, .ref o5])), (o4, .inr (10, [.ref a41, .ref a42, .ref a43, .int l4])), (a41, .inl (cI, 256, .inl f41)), (o5, .inr (10, [.ref a51, .ref a52, .ref a53, .int l5])), (a51, .inl (cI, 256, .inl f51))] t.heap ∧ va_D A [(oP, .inr (7, [.ref oC, .ref nB, .int ft'])), (nz, .inr (5, [.ref az, .int lz])), (az, .inl (cI, cz, .inl fz)), (nd, .inr (5, [.ref ad, .int ld'])), (ad, .inl (cI, 300, .inl fd')), (oC, .inr (2, [.ref o4, .ref o5])), (o4, .inr (10, [.ref a41, .ref a42, .ref a43, .int l4])), (a41, .inl (cI, 256, .inl f41)), (o5, .inr (10, [.ref a51, .ref a52, .ref a53, .int l5])), (a51, .inl (cI, 256, .inl f51))] ∧ (0 ≤ ld'.toInt ∧ ld'.toInt ≤ 300) ∧ (0 ≤ r.toInt ∧ r.toInt ≤ 1) ∧ (F_rx r ft' ld' fd' (dl cd f41 f51 fz lz.toInt) (dx cd f41 f51 fz lz.toInt) lz.toInt)) A := ⟨_, rfl⟩
  rw [← hQQ]
  refine lv_aload_n hx hb dX7_readExactly_0 rfl (lv_at hl 0 rfl) ?_
  refine lv_iconst (v := (-1)) hx hb dX7_readExactly_1 (by decide) ?_
  refine va_put (D := (dC, dI)) (ci := 7) (v := .int (-1)) (ty := .int) (C := RX7) (T := TX7) (N := 3) hx hb hts in_X7 tyX7 tyX7_ok nmX7 hown hK hP hD hS 0 rfl rfl 2 (by decide) (hts (.fieldLink RX7 24 "TextMender$Passage" "fault" "I") (List.mem_of_getElem? (i := 1) rfl)) (fun _ h9 => h9) rfl (by decide +kernel) rfl rfl (Nat.le_of_ble_eq_true rfl) dX7_readExactly_2 (fun H locs hPn hDn hSn => ?_)
  clear hP hD hS
  have hP : va_P (dC, dI) vwCl [(oP, .inr (7, [.ref oC, .ref nB, .int (-1)])), (nz, .inr (5, [.ref az, .int lz])), (az, .inl (cI, cz, .inl fz)), (nd, .inr (5, [.ref ad, .int ld])), (ad, .inl (cI, 300, .inl fd)), (oC, .inr (2, [.ref o4, .ref o5])), (o4, .inr (10, [.ref a41, .ref a42, .ref a43, .int l4])), (a41, .inl (cI, 256, .inl f41)), (o5, .inr (10, [.ref a51, .ref a52, .ref a53, .int l5])), (a51, .inl (cI, 256, .inl f51))] H := hPn
  have hD : va_D A [(oP, .inr (7, [.ref oC, .ref nB, .int (-1)])), (nz, .inr (5, [.ref az, .int lz])), (az, .inl (cI, cz, .inl fz)), (nd, .inr (5, [.ref ad, .int ld])), (ad, .inl (cI, 300, .inl fd)), (oC, .inr (2, [.ref o4, .ref o5])), (o4, .inr (10, [.ref a41, .ref a42, .ref a43, .int l4])), (a41, .inl (cI, 256, .inl f41)), (o5, .inr (10, [.ref a51, .ref a52, .ref a53, .int l5])), (a51, .inl (cI, 256, .inl f51))] := hDn
  have hS := hSn
  clear hPn hDn hSn
  refine lv_aload_n hx hb dX7_readExactly_5 rfl (lv_at hl 3 rfl) ?_
  refine lv_iconst (v := 0) hx hb dX7_readExactly_6 (by decide) ?_
  have hPc := hP.sub (ws' := [(nd, .inr (5, [.ref ad, .int ld]))]) [3] rfl
  have hDc := hD.sub (ws' := [(nd, .inr (5, [.ref ad, .int ld]))]) [3] (by decide +kernel) rfl
  have hFc := va_free (wc := [(nd, .inr (5, [.ref ad, .int ld]))]) hD hS hA [3] rfl
  refine va_callv (va_runV (As := [.int 0]) (rest := []) ⟨hx, hb, hml, hown, hts⟩ (m_X5_cut l dC dI cI cS H.size nd ad ld 0 (by omega)) (cwV 1 hts gX7_readExactly_X5_cut rfl rfl rfl (by decide +kernel) ⟨Nat.le_of_ble_eq_true rfl, Nat.le_of_ble_eq_true rfl⟩) ⟨fun a U g mk q => by obtain ⟨q0, q1, qP, qK, qD⟩ := q; exact ⟨q0, q1, qP, va_K.moved (u := U) (U := U.calling g mk a) (Vm.Alike.refl U.vm) qK, qD⟩, va_recv hK hPc (ci := 5) (q0 := 0) rfl rfl, fun U hU hW => ⟨rfl, by rw [hU], by rw [hU]; exact hPc, va_K.moved hW.alike hK, hDc.weaken (fun _ _ _ _ => trivial)⟩⟩ rfl rfl hl.1 rfl (lv_room (Nat.le_of_ble_eq_true rfl)) dX7_readExactly_7 ⟨Nat.le_of_ble_eq_true rfl, Nat.le_of_ble_eq_true rfl⟩) hS (fun q _ h => hFc q h) hFc (fun u t H1 locs ht hvm hw hB hz1 hk1 hSn => ?_)
  obtain ⟨lu_1, hP1, hD1, hf1_0, hf1_1, hf1_2⟩ := hB
  rw [ht] at hP1
  obtain ⟨hPn, hDn⟩ := va_join (wr := [(oP, .inr (7, [.ref oC, .ref nB, .int (-1)])), (nz, .inr (5, [.ref az, .int lz])), (az, .inl (cI, cz, .inl fz)), (ad, .inl (cI, 300, .inl fd)), (oC, .inr (2, [.ref o4, .ref o5])), (o4, .inr (10, [.ref a41, .ref a42, .ref a43, .int l4])), (a41, .inl (cI, 256, .inl f41)), (o5, .inr (10, [.ref a51, .ref a52, .ref a53, .int l5])), (a51, .inl (cI, 256, .inl f51))]) (w1 := [(nd, .inr (5, [.ref ad, .int lu_1]))]) hP hD [3] [0, 1, 2, 4, 5, 6, 7, 8, 9] rfl rfl (by decide +kernel) (by decide +kernel) hk1 hFc hP1 hD1
  clear hP hD hS hPc hDc hFc hk1 hz1 hvm ht hP1 hD1
  generalize H1 = H at hPn hSn ⊢
  have hP : va_P (dC, dI) vwCl [(oP, .inr (7, [.ref oC, .ref nB, .int (-1)])), (nz, .inr (5, [.ref az, .int lz])), (az, .inl (cI, cz, .inl fz)), (ad, .inl (cI, 300, .inl fd)), (oC, .inr (2, [.ref o4, .ref o5])), (o4, .inr (10, [.ref a41, .ref a42, .ref a43, .int l4])), (a41, .inl (cI, 256, .inl f41)), (o5, .inr (10, [.ref a51, .ref a52, .ref a53, .int l5])), (a51, .inl (cI, 256, .inl f51)), (nd, .inr (5, [.ref ad, .int lu_1]))] H := hPn
  have hD : va_D A [(oP, .inr (7, [.ref oC, .ref nB, .int (-1)])), (nz, .inr (5, [.ref az, .int lz])), (az, .inl (cI, cz, .inl fz)), (ad, .inl (cI, 300, .inl fd)), (oC, .inr (2, [.ref o4, .ref o5])), (o4, .inr (10, [.ref a41, .ref a42, .ref a43, .int l4])), (a41, .inl (cI, 256, .inl f41)), (o5, .inr (10, [.ref a51, .ref a52, .ref a53, .int l5])), (a51, .inl (cI, 256, .inl f51)), (nd, .inr (5, [.ref ad, .int lu_1]))] := hDn
  have hS := hSn
  clear hPn hDn hSn
  have ha1 : lu_1.toInt = 0 := F_cut_l hf1_2 (by first | decide | omega) (by first | omega | (show (0 : Int) ≤ _; omega))
  refine lv_iconst (v := 1) hx hb dX7_readExactly_10 (by decide) ?_
  refine lv_istore (lv' := [(4, .int 1), (0, .ref oP), (1, .int cd), (2, .ref nz), (3, .ref nd)]) hx hb dX7_readExactly_11 hl (by decide) rfl (fun ls hl => ?_)
  refine lv_iconst (v := 0) hx hb dX7_readExactly_13 (by decide) ?_
  refine lv_istore (lv' := [(5, .int 0), (4, .int 1), (0, .ref oP), (1, .int cd), (2, .ref nz), (3, .ref nd)]) hx hb dX7_readExactly_14 hl (by decide) rfl (fun ls hl => ?_)
  have LOOP_16 : ∀ (k_16 : Nat) (fi : Int32) (p_ : Int32) (l2 : Int32) (f2 : Nat → Int32) (H : Heap) (locs : List Loc) (ls : Array Slot), MSd (lz.toInt - p_.toInt : Int) k_16 → (0 ≤ fi.toInt ∧ fi.toInt ≤ 1) → (0 ≤ p_.toInt ∧ p_.toInt ≤ lz.toInt) → (0 ≤ l2.toInt ∧ l2.toInt ≤ 300) → (RX p_ fi l2 f2 (dl cd f41 f51 fz lz.toInt) (dx cd f41 f51 fz lz.toInt)) → va_P (dC, dI) vwCl [(oP, .inr (7, [.ref oC, .ref nB, .int (-1)])), (nz, .inr (5, [.ref az, .int lz])), (az, .inl (cI, cz, .inl fz)), (ad, .inl (cI, 300, .inl f2)), (oC, .inr (2, [.ref o4, .ref o5])), (o4, .inr (10, [.ref a41, .ref a42, .ref a43, .int l4])), (a41, .inl (cI, 256, .inl f41)), (o5, .inr (10, [.ref a51, .ref a52, .ref a53, .int l5])), (a51, .inl (cI, 256, .inl f51)), (nd, .inr (5, [.ref ad, .int l2]))] H → va_D A [(oP, .inr (7, [.ref oC, .ref nB, .int (-1)])), (nz, .inr (5, [.ref az, .int lz])), (az, .inl (cI, cz, .inl fz)), (ad, .inl (cI, 300, .inl f2)), (oC, .inr (2, [.ref o4, .ref o5])), (o4, .inr (10, [.ref a41, .ref a42, .ref a43, .int l4])), (a41, .inl (cI, 256, .inl f41)), (o5, .inr (10, [.ref a51, .ref a52, .ref a53, .int l5])), (a51, .inl (cI, 256, .inl f51)), (nd, .inr (5, [.ref ad, .int l2]))] → va_S A s.heap H locs → lv_has ls 7 [(5, .int p_), (4, .int fi), (0, .ref oP), (1, .int cd), (2, .ref nz), (3, .ref nd)] → W p l e (headSpec wsX7_readExactly ({ frames := 3, cells := 0, slots := 0, locals := 74 } : Room)).room s m ([.ref oP, .int cd, .ref nz, .ref nd] : List Value).toArray below meth c H locs 0 0 (MQ below QQ ([.ref oP, .int cd, .ref nz, .ref nd] : List Value).toArray s 0 0 A) (F0 m 16 ls []) := by
    clear hP hD hS hl
    intro k_16
    induction k_16 with
    | zero =>
      intro fi p_ l2 f2 H locs ls hm_16 g_fi g_p_ g_l2 hrx hP hD hS hl
      exact ms_0 hm_16
    | succ k_16 ih_16 =>
      intro fi p_ l2 f2 H locs ls hm_16 g_fi g_p_ g_l2 hrx hP hD hS hl
      refine lv_iload hx hb dX7_readExactly_16 (lv_at hl 0 rfl) ?_
      refine lv_aload_n hx hb dX7_readExactly_18 rfl (lv_at hl 4 rfl) ?_
      have hPc := hP.sub (ws' := [(nz, .inr (5, [.ref az, .int lz]))]) [1] rfl
      have hDc := hD.sub (ws' := [(nz, .inr (5, [.ref az, .int lz]))]) [1] (by decide +kernel) rfl
      have hFc := va_free (wc := [(nz, .inr (5, [.ref az, .int lz]))]) hD hS hA [1] rfl
      refine va_calli (va_runV (As := []) (rest := [.int p_]) ⟨hx, hb, hml, hown, hts⟩ (m_X5_length l dC dI cI cS H.size nz az lz ) (cwV 0 hts gX7_readExactly_X5_length rfl rfl rfl (by decide +kernel) ⟨Nat.le_of_ble_eq_true rfl, Nat.le_of_ble_eq_true rfl⟩) ⟨fun a U g mk q => by obtain ⟨q0, q1, qP, qK, qD⟩ := q; exact ⟨q0, q1, qP, va_K.moved (u := U) (U := U.calling g mk a) (Vm.Alike.refl U.vm) qK, qD⟩, va_recv hK hPc (ci := 5) (q0 := 0) rfl rfl, fun U hU hW => ⟨rfl, by rw [hU], by rw [hU]; exact hPc, va_K.moved hW.alike hK, hDc.weaken (fun _ _ _ _ => trivial)⟩⟩ rfl rfl hl.1 rfl (lv_room (Nat.le_of_ble_eq_true rfl)) dX7_readExactly_19 ⟨Nat.le_of_ble_eq_true rfl, Nat.le_of_ble_eq_true rfl⟩) hS (fun q _ h => hFc q h) hFc (fun r_2 u t H1 locs ht hvm hw hB hz1 hk1 hSn => ?_)
      subst hw
      obtain ⟨hP1, hD1, hf2_0⟩ := hB
      rw [ht] at hP1
      obtain ⟨hPn, hDn⟩ := va_join (wr := [(oP, .inr (7, [.ref oC, .ref nB, .int (-1)])), (az, .inl (cI, cz, .inl fz)), (ad, .inl (cI, 300, .inl f2)), (oC, .inr (2, [.ref o4, .ref o5])), (o4, .inr (10, [.ref a41, .ref a42, .ref a43, .int l4])), (a41, .inl (cI, 256, .inl f41)), (o5, .inr (10, [.ref a51, .ref a52, .ref a53, .int l5])), (a51, .inl (cI, 256, .inl f51)), (nd, .inr (5, [.ref ad, .int l2]))]) (w1 := [(nz, .inr (5, [.ref az, .int lz]))]) hP hD [1] [0, 2, 3, 4, 5, 6, 7, 8, 9] rfl rfl (by decide +kernel) (by decide +kernel) hk1 hFc hP1 hD1
      clear hP hD hS hPc hDc hFc hk1 hz1 hvm ht hP1 hD1
      generalize H1 = H at hPn hSn ⊢
      have hP : va_P (dC, dI) vwCl [(oP, .inr (7, [.ref oC, .ref nB, .int (-1)])), (az, .inl (cI, cz, .inl fz)), (ad, .inl (cI, 300, .inl f2)), (oC, .inr (2, [.ref o4, .ref o5])), (o4, .inr (10, [.ref a41, .ref a42, .ref a43, .int l4])), (a41, .inl (cI, 256, .inl f41)), (o5, .inr (10, [.ref a51, .ref a52, .ref a53, .int l5])), (a51, .inl (cI, 256, .inl f51)), (nd, .inr (5, [.ref ad, .int l2])), (nz, .inr (5, [.ref az, .int lz]))] H := hPn
      have hD : va_D A [(oP, .inr (7, [.ref oC, .ref nB, .int (-1)])), (az, .inl (cI, cz, .inl fz)), (ad, .inl (cI, 300, .inl f2)), (oC, .inr (2, [.ref o4, .ref o5])), (o4, .inr (10, [.ref a41, .ref a42, .ref a43, .int l4])), (a41, .inl (cI, 256, .inl f41)), (o5, .inr (10, [.ref a51, .ref a52, .ref a53, .int l5])), (a51, .inl (cI, 256, .inl f51)), (nd, .inr (5, [.ref ad, .int l2])), (nz, .inr (5, [.ref az, .int lz]))] := hDn
      have hS := hSn
      clear hPn hDn hSn
      rw [hf2_0]
      refine lv_icmp_ge (tgt := 97) hx hb dX7_readExactly_22 (by decide) (fun c_3 => ?_) (fun c_3 => ?_)
      · have tc_3 : lz.toInt ≤ p_.toInt := v_le c_3
        refine lv_iload hx hb dX7_readExactly_97 (lv_at hl 1 rfl) ?_
        have hP9 := hP.sub (ws' := [(oP, .inr (7, [.ref oC, .ref nB, .int (-1)])), (nz, .inr (5, [.ref az, .int lz])), (az, .inl (cI, cz, .inl fz)), (nd, .inr (5, [.ref ad, .int l2])), (ad, .inl (cI, 300, .inl f2)), (oC, .inr (2, [.ref o4, .ref o5])), (o4, .inr (10, [.ref a41, .ref a42, .ref a43, .int l4])), (a41, .inl (cI, 256, .inl f41)), (o5, .inr (10, [.ref a51, .ref a52, .ref a53, .int l5])), (a51, .inl (cI, 256, .inl f51))]) [0, 9, 1, 8, 2, 3, 4, 5, 6, 7] rfl
        have hD9 := hD.sub (ws' := [(oP, .inr (7, [.ref oC, .ref nB, .int (-1)])), (nz, .inr (5, [.ref az, .int lz])), (az, .inl (cI, cz, .inl fz)), (nd, .inr (5, [.ref ad, .int l2])), (ad, .inl (cI, 300, .inl f2)), (oC, .inr (2, [.ref o4, .ref o5])), (o4, .inr (10, [.ref a41, .ref a42, .ref a43, .int l4])), (a41, .inl (cI, 256, .inl f41)), (o5, .inr (10, [.ref a51, .ref a52, .ref a53, .int l5])), (a51, .inl (cI, 256, .inl f51))]) [0, 9, 1, 8, 2, 3, 4, 5, 6, 7] (by decide +kernel) rfl
        rw [hQQ]
        exact W.zret (v := fi) (ty := .boolean) hx hb hr (v_bool (by omega)) (fun t ht hW => ⟨⟨fi, fi, rfl, rfl, ⟨(-1), l2, f2, by rw [ht]; exact hP9, hD9, g_l2, g_fi, RX_end hrx (by omega)⟩⟩, hS.F ht⟩) hS.2.2 dX7_readExactly_99
      · have tc_3 : p_.toInt < lz.toInt := v_nle c_3
        refine lv_aload_n hx hb dX7_readExactly_25 rfl (lv_at hl 2 rfl) ?_
        refine va_get (D := (dC, dI)) (ci := 7) (v := .ref oC) (C := RX7) (T := TX7) (N := 3) hx hb hts in_X7 hown hK hP 0 rfl rfl 0 (by decide) (hts (.fieldLink RX7 20 "TextMender$Passage" "codes" "LTextMender$Codes;") (List.mem_of_getElem? (i := 2) rfl)) (fun _ h9 => h9) rfl dX7_readExactly_26 ?_
        refine lv_iload_n hx hb dX7_readExactly_29 rfl (lv_at hl 3 rfl) ?_
        refine lv_aload_n hx hb dX7_readExactly_30 rfl (lv_at hl 4 rfl) ?_
        refine lv_iload hx hb dX7_readExactly_31 (lv_at hl 0 rfl) ?_
        refine lv_aload_n hx hb dX7_readExactly_33 rfl (lv_at hl 4 rfl) ?_
        have hPc := hP.sub (ws' := [(nz, .inr (5, [.ref az, .int lz]))]) [9] rfl
        have hDc := hD.sub (ws' := [(nz, .inr (5, [.ref az, .int lz]))]) [9] (by decide +kernel) rfl
        have hFc := va_free (wc := [(nz, .inr (5, [.ref az, .int lz]))]) hD hS hA [9] rfl
        refine va_calli (va_runV (As := []) (rest := [.int p_, .ref nz, .int cd, .ref oC]) ⟨hx, hb, hml, hown, hts⟩ (m_X5_length l dC dI cI cS H.size nz az lz ) (cwV 0 hts gX7_readExactly_X5_length rfl rfl rfl (by decide +kernel) ⟨Nat.le_of_ble_eq_true rfl, Nat.le_of_ble_eq_true rfl⟩) ⟨fun a U g mk q => by obtain ⟨q0, q1, qP, qK, qD⟩ := q; exact ⟨q0, q1, qP, va_K.moved (u := U) (U := U.calling g mk a) (Vm.Alike.refl U.vm) qK, qD⟩, va_recv hK hPc (ci := 5) (q0 := 0) rfl rfl, fun U hU hW => ⟨rfl, by rw [hU], by rw [hU]; exact hPc, va_K.moved hW.alike hK, hDc.weaken (fun _ _ _ _ => trivial)⟩⟩ rfl rfl hl.1 rfl (lv_room (Nat.le_of_ble_eq_true rfl)) dX7_readExactly_34 ⟨Nat.le_of_ble_eq_true rfl, Nat.le_of_ble_eq_true rfl⟩) hS (fun q _ h => hFc q h) hFc (fun r_4 u t H1 locs ht hvm hw hB hz1 hk1 hSn => ?_)
        subst hw
        obtain ⟨hP1, hD1, hf4_0⟩ := hB
        rw [ht] at hP1
        obtain ⟨hPn, hDn⟩ := va_join (wr := [(oP, .inr (7, [.ref oC, .ref nB, .int (-1)])), (az, .inl (cI, cz, .inl fz)), (ad, .inl (cI, 300, .inl f2)), (oC, .inr (2, [.ref o4, .ref o5])), (o4, .inr (10, [.ref a41, .ref a42, .ref a43, .int l4])), (a41, .inl (cI, 256, .inl f41)), (o5, .inr (10, [.ref a51, .ref a52, .ref a53, .int l5])), (a51, .inl (cI, 256, .inl f51)), (nd, .inr (5, [.ref ad, .int l2]))]) (w1 := [(nz, .inr (5, [.ref az, .int lz]))]) hP hD [9] [0, 1, 2, 3, 4, 5, 6, 7, 8] rfl rfl (by decide +kernel) (by decide +kernel) hk1 hFc hP1 hD1
        clear hP hD hS hPc hDc hFc hk1 hz1 hvm ht hP1 hD1
        generalize H1 = H at hPn hSn ⊢
        have hP : va_P (dC, dI) vwCl [(oP, .inr (7, [.ref oC, .ref nB, .int (-1)])), (az, .inl (cI, cz, .inl fz)), (ad, .inl (cI, 300, .inl f2)), (oC, .inr (2, [.ref o4, .ref o5])), (o4, .inr (10, [.ref a41, .ref a42, .ref a43, .int l4])), (a41, .inl (cI, 256, .inl f41)), (o5, .inr (10, [.ref a51, .ref a52, .ref a53, .int l5])), (a51, .inl (cI, 256, .inl f51)), (nd, .inr (5, [.ref ad, .int l2])), (nz, .inr (5, [.ref az, .int lz]))] H := hPn
        have hD : va_D A [(oP, .inr (7, [.ref oC, .ref nB, .int (-1)])), (az, .inl (cI, cz, .inl fz)), (ad, .inl (cI, 300, .inl f2)), (oC, .inr (2, [.ref o4, .ref o5])), (o4, .inr (10, [.ref a41, .ref a42, .ref a43, .int l4])), (a41, .inl (cI, 256, .inl f41)), (o5, .inr (10, [.ref a51, .ref a52, .ref a53, .int l5])), (a51, .inl (cI, 256, .inl f51)), (nd, .inr (5, [.ref ad, .int l2])), (nz, .inr (5, [.ref az, .int lz]))] := hDn
        have hS := hSn
        clear hPn hDn hSn
        rw [hf4_0]
        have hPc := hP.sub (ws' := [(oC, .inr (2, [.ref o4, .ref o5])), (o4, .inr (10, [.ref a41, .ref a42, .ref a43, .int l4])), (a41, .inl (cI, 256, .inl f41)), (o5, .inr (10, [.ref a51, .ref a52, .ref a53, .int l5])), (a51, .inl (cI, 256, .inl f51)), (nz, .inr (5, [.ref az, .int lz])), (az, .inl (cI, cz, .inl fz))]) [3, 4, 5, 6, 7, 9, 1] rfl
        have hDc := hD.sub (ws' := [(oC, .inr (2, [.ref o4, .ref o5])), (o4, .inr (10, [.ref a41, .ref a42, .ref a43, .int l4])), (a41, .inl (cI, 256, .inl f41)), (o5, .inr (10, [.ref a51, .ref a52, .ref a53, .int l5])), (a51, .inl (cI, 256, .inl f51)), (nz, .inr (5, [.ref az, .int lz])), (az, .inl (cI, cz, .inl fz))]) [3, 4, 5, 6, 7, 9, 1] (by decide +kernel) rfl
        have hFc := va_free (wc := [(oC, .inr (2, [.ref o4, .ref o5])), (o4, .inr (10, [.ref a41, .ref a42, .ref a43, .int l4])), (a41, .inl (cI, 256, .inl f41)), (o5, .inr (10, [.ref a51, .ref a52, .ref a53, .int l5])), (a51, .inl (cI, 256, .inl f51)), (nz, .inr (5, [.ref az, .int lz])), (az, .inl (cI, cz, .inl fz))]) hD hS hA [3, 4, 5, 6, 7, 9, 1] rfl
        refine va_calli (va_runV (As := [.int cd, .ref nz, .int p_, .int lz]) (rest := []) ⟨hx, hb, hml, hown, hts⟩ (f_X2_decode l dC dI cI cS H.size oC nz o4 o5 a41 a42 a43 a51 a52 a53 az cz l4 f41 l5 f51 lz fz cd p_ lz (g_lz) (by omega) (by omega) (by omega) (hby) (hL4) (hL5)) (cwV 4 hts gX7_readExactly_X2_decode rfl rfl rfl (by decide +kernel) ⟨Nat.le_of_ble_eq_true rfl, Nat.le_of_ble_eq_true rfl⟩) ⟨fun a U g mk q => by obtain ⟨q0, q1, qP, qK, qD, qN0⟩ := q; exact ⟨q0, q1, qP, va_K.moved (u := U) (U := U.calling g mk a) (Vm.Alike.refl U.vm) qK, qD, va_Nw.same rfl rfl qN0⟩, va_recv hK hPc (ci := 2) (q0 := 0) rfl rfl, fun U hU hW => ⟨rfl, by rw [hU], by rw [hU]; exact hPc, va_K.moved hW.alike hK, hDc.weaken (fun _ _ _ _ => trivial), va_Nw.warmM hW hN52⟩⟩ rfl rfl hl.1 rfl (lv_room (Nat.le_of_ble_eq_true rfl)) dX7_readExactly_37 ⟨Nat.le_of_ble_eq_true rfl, Nat.le_of_ble_eq_true rfl⟩) hS (fun q _ h => hFc q h) hFc (fun r_5 u t H1 locs ht hvm hw hB hz1 hk1 hSn => ?_)
        subst hw
        obtain ⟨hP1, hD1, hf5_0⟩ := hB
        rw [ht] at hP1
        obtain ⟨hPn, hDn⟩ := va_join (wr := [(oP, .inr (7, [.ref oC, .ref nB, .int (-1)])), (ad, .inl (cI, 300, .inl f2)), (nd, .inr (5, [.ref ad, .int l2]))]) (w1 := [(oC, .inr (2, [.ref o4, .ref o5])), (o4, .inr (10, [.ref a41, .ref a42, .ref a43, .int l4])), (a41, .inl (cI, 256, .inl f41)), (o5, .inr (10, [.ref a51, .ref a52, .ref a53, .int l5])), (a51, .inl (cI, 256, .inl f51)), (nz, .inr (5, [.ref az, .int lz])), (az, .inl (cI, cz, .inl fz))]) hP hD [3, 4, 5, 6, 7, 9, 1] [0, 2, 8] rfl rfl (by decide +kernel) (by decide +kernel) hk1 hFc hP1 hD1
        clear hP hD hS hPc hDc hFc hk1 hz1 hvm ht hP1 hD1
        generalize H1 = H at hPn hSn ⊢
        have hP : va_P (dC, dI) vwCl [(oP, .inr (7, [.ref oC, .ref nB, .int (-1)])), (ad, .inl (cI, 300, .inl f2)), (nd, .inr (5, [.ref ad, .int l2])), (oC, .inr (2, [.ref o4, .ref o5])), (o4, .inr (10, [.ref a41, .ref a42, .ref a43, .int l4])), (a41, .inl (cI, 256, .inl f41)), (o5, .inr (10, [.ref a51, .ref a52, .ref a53, .int l5])), (a51, .inl (cI, 256, .inl f51)), (nz, .inr (5, [.ref az, .int lz])), (az, .inl (cI, cz, .inl fz))] H := hPn
        have hD : va_D A [(oP, .inr (7, [.ref oC, .ref nB, .int (-1)])), (ad, .inl (cI, 300, .inl f2)), (nd, .inr (5, [.ref ad, .int l2])), (oC, .inr (2, [.ref o4, .ref o5])), (o4, .inr (10, [.ref a41, .ref a42, .ref a43, .int l4])), (a41, .inl (cI, 256, .inl f41)), (o5, .inr (10, [.ref a51, .ref a52, .ref a53, .int l5])), (a51, .inl (cI, 256, .inl f51)), (nz, .inr (5, [.ref az, .int lz])), (az, .inl (cI, cz, .inl fz))] := hDn
        have hS := hSn
        clear hPn hDn hSn
        refine lv_istore (lv' := [(6, .int r_5), (5, .int p_), (4, .int fi), (0, .ref oP), (1, .int cd), (2, .ref nz), (3, .ref nd)]) hx hb dX7_readExactly_40 hl (by decide) rfl (fun ls hl => ?_)
        refine lv_iload hx hb dX7_readExactly_42 (lv_at hl 0 rfl) ?_
        refine lv_iconst (v := (-1)) hx hb dX7_readExactly_44 (by decide) ?_
        refine lv_icmp_ne (tgt := 56) hx hb dX7_readExactly_45 (by decide) (fun c_6 => ?_) (fun c_6 => ?_)
        · have tc_6 : ¬ r_5.toInt = (-1) := v_ne c_6
          obtain ⟨l9, x9, hD9, hr9, hx9, hy9⟩ := F_dc_1 hf5_0 c_6
          have cp9 := v_clamp (x := p_) (by omega)
          have hp9 := Dec_pos hD9
          have hd9 := dl_of hD9
          refine lv_aload_n hx hb dX7_readExactly_56 rfl (lv_at hl 6 rfl) ?_
          refine lv_iload hx hb dX7_readExactly_57 (lv_at hl 0 rfl) ?_
          have hPc := hP.sub (ws' := []) [] rfl
          have hDc := hD.sub (ws' := []) [] (by decide +kernel) rfl
          have hFc := va_free (wc := []) hD hS hA [] rfl
          refine va_calli (va_runS (As := [.int r_5]) (rest := [.ref nd]) ⟨hx, hb, hml, hown, hts⟩ (f_X2_letterIn l dC dI cI cS H.size r_5 ) (va_cwS 1 hts gX7_readExactly_X2_letterIn rfl rfl rfl (by decide +kernel) ⟨Nat.le_of_ble_eq_true rfl, Nat.le_of_ble_eq_true rfl⟩) ⟨fun a U g mk q => by obtain ⟨q0, q1, qP, qK, qD⟩ := q; exact ⟨q0, q1, qP, va_K.moved (u := U) (U := U.calling g mk a) (Vm.Alike.refl U.vm) qK, qD⟩, fun U hU hW => ⟨rfl, by rw [hU], by rw [hU]; exact hPc, va_K.moved hW.alike hK, hDc.weaken (fun _ _ _ _ => trivial)⟩⟩ rfl rfl hl.1 rfl (lv_room (Nat.le_of_ble_eq_true rfl)) dX7_readExactly_59 ⟨Nat.le_of_ble_eq_true rfl, Nat.le_of_ble_eq_true rfl⟩) hS (fun q _ h => hFc q h) hFc (fun r_7 u t H1 locs ht hvm hw hB hz1 hk1 hSn => ?_)
          subst hw
          obtain ⟨hP1, hD1, hf7_0⟩ := hB
          rw [ht] at hP1
          obtain ⟨hPn, hDn⟩ := va_join (wr := [(oP, .inr (7, [.ref oC, .ref nB, .int (-1)])), (ad, .inl (cI, 300, .inl f2)), (nd, .inr (5, [.ref ad, .int l2])), (oC, .inr (2, [.ref o4, .ref o5])), (o4, .inr (10, [.ref a41, .ref a42, .ref a43, .int l4])), (a41, .inl (cI, 256, .inl f41)), (o5, .inr (10, [.ref a51, .ref a52, .ref a53, .int l5])), (a51, .inl (cI, 256, .inl f51)), (nz, .inr (5, [.ref az, .int lz])), (az, .inl (cI, cz, .inl fz))]) (w1 := []) hP hD [] [0, 1, 2, 3, 4, 5, 6, 7, 8, 9] rfl rfl (by decide +kernel) (by decide +kernel) hk1 hFc hP1 hD1
          clear hP hD hS hPc hDc hFc hk1 hz1 hvm ht hP1 hD1
          generalize H1 = H at hPn hSn ⊢
          have hP : va_P (dC, dI) vwCl [(oP, .inr (7, [.ref oC, .ref nB, .int (-1)])), (ad, .inl (cI, 300, .inl f2)), (nd, .inr (5, [.ref ad, .int l2])), (oC, .inr (2, [.ref o4, .ref o5])), (o4, .inr (10, [.ref a41, .ref a42, .ref a43, .int l4])), (a41, .inl (cI, 256, .inl f41)), (o5, .inr (10, [.ref a51, .ref a52, .ref a53, .int l5])), (a51, .inl (cI, 256, .inl f51)), (nz, .inr (5, [.ref az, .int lz])), (az, .inl (cI, cz, .inl fz))] H := hPn
          have hD : va_D A [(oP, .inr (7, [.ref oC, .ref nB, .int (-1)])), (ad, .inl (cI, 300, .inl f2)), (nd, .inr (5, [.ref ad, .int l2])), (oC, .inr (2, [.ref o4, .ref o5])), (o4, .inr (10, [.ref a41, .ref a42, .ref a43, .int l4])), (a41, .inl (cI, 256, .inl f41)), (o5, .inr (10, [.ref a51, .ref a52, .ref a53, .int l5])), (a51, .inl (cI, 256, .inl f51)), (nz, .inr (5, [.ref az, .int lz])), (az, .inl (cI, cz, .inl fz))] := hDn
          have hS := hSn
          clear hPn hDn hSn
          have hPc := hP.sub (ws' := [(nd, .inr (5, [.ref ad, .int l2])), (ad, .inl (cI, 300, .inl f2))]) [2, 1] rfl
          have hDc := hD.sub (ws' := [(nd, .inr (5, [.ref ad, .int l2])), (ad, .inl (cI, 300, .inl f2))]) [2, 1] (by decide +kernel) rfl
          have hFc := va_free (wc := [(nd, .inr (5, [.ref ad, .int l2])), (ad, .inl (cI, 300, .inl f2))]) hD hS hA [2, 1] rfl
          refine va_calli (va_runV (As := [.int r_7]) (rest := []) ⟨hx, hb, hml, hown, hts⟩ (m_X5_add l dC dI cI cS H.size nd ad 300 l2 f2 r_7 (by omega) (by omega)) (cwV 1 hts gX7_readExactly_X5_add rfl rfl rfl (by decide +kernel) ⟨Nat.le_of_ble_eq_true rfl, Nat.le_of_ble_eq_true rfl⟩) ⟨fun a U g mk q => by obtain ⟨q0, q1, qP, qK, qD⟩ := q; exact ⟨q0, q1, qP, va_K.moved (u := U) (U := U.calling g mk a) (Vm.Alike.refl U.vm) qK, qD⟩, va_recv hK hPc (ci := 5) (q0 := 0) rfl rfl, fun U hU hW => ⟨rfl, by rw [hU], by rw [hU]; exact hPc, va_K.moved hW.alike hK, hDc.weaken (fun _ _ _ _ => trivial)⟩⟩ rfl rfl hl.1 rfl (lv_room (Nat.le_of_ble_eq_true rfl)) dX7_readExactly_62 ⟨Nat.le_of_ble_eq_true rfl, Nat.le_of_ble_eq_true rfl⟩) hS (fun q _ h => hFc q h) hFc (fun r_8 u t H1 locs ht hvm hw hB hz1 hk1 hSn => ?_)
          subst hw
          obtain ⟨lu_8, fu_8, hP1, hD1, hf8_0, hf8_1, hf8_2⟩ := hB
          rw [ht] at hP1
          obtain ⟨hPn, hDn⟩ := va_join (wr := [(oP, .inr (7, [.ref oC, .ref nB, .int (-1)])), (oC, .inr (2, [.ref o4, .ref o5])), (o4, .inr (10, [.ref a41, .ref a42, .ref a43, .int l4])), (a41, .inl (cI, 256, .inl f41)), (o5, .inr (10, [.ref a51, .ref a52, .ref a53, .int l5])), (a51, .inl (cI, 256, .inl f51)), (nz, .inr (5, [.ref az, .int lz])), (az, .inl (cI, cz, .inl fz))]) (w1 := [(nd, .inr (5, [.ref ad, .int lu_8])), (ad, .inl (cI, 300, .inl fu_8))]) hP hD [2, 1] [0, 3, 4, 5, 6, 7, 8, 9] rfl rfl (by decide +kernel) (by decide +kernel) hk1 hFc hP1 hD1
          clear hP hD hS hPc hDc hFc hk1 hz1 hvm ht hP1 hD1
          generalize H1 = H at hPn hSn ⊢
          have hP : va_P (dC, dI) vwCl [(oP, .inr (7, [.ref oC, .ref nB, .int (-1)])), (oC, .inr (2, [.ref o4, .ref o5])), (o4, .inr (10, [.ref a41, .ref a42, .ref a43, .int l4])), (a41, .inl (cI, 256, .inl f41)), (o5, .inr (10, [.ref a51, .ref a52, .ref a53, .int l5])), (a51, .inl (cI, 256, .inl f51)), (nz, .inr (5, [.ref az, .int lz])), (az, .inl (cI, cz, .inl fz)), (nd, .inr (5, [.ref ad, .int lu_8])), (ad, .inl (cI, 300, .inl fu_8))] H := hPn
          have hD : va_D A [(oP, .inr (7, [.ref oC, .ref nB, .int (-1)])), (oC, .inr (2, [.ref o4, .ref o5])), (o4, .inr (10, [.ref a41, .ref a42, .ref a43, .int l4])), (a41, .inl (cI, 256, .inl f41)), (o5, .inr (10, [.ref a51, .ref a52, .ref a53, .int l5])), (a51, .inl (cI, 256, .inl f51)), (nz, .inr (5, [.ref az, .int lz])), (az, .inl (cI, cz, .inl fz)), (nd, .inr (5, [.ref ad, .int lu_8])), (ad, .inl (cI, 300, .inl fu_8))] := hDn
          have hS := hSn
          clear hPn hDn hSn
          refine lv_if_eq (tgt := 77) hx hb dX7_readExactly_65 (by decide) (fun c_9 => ?_) (fun c_9 => ?_)
          · have tc_9 : r_8.toInt = 0 := v_eq c_9
            refine lv_iconst (v := 0) hx hb dX7_readExactly_77 (by decide) ?_
            refine lv_istore (lv' := [(4, .int 0), (6, .int r_5), (5, .int p_), (0, .ref oP), (1, .int cd), (2, .ref nz), (3, .ref nd)]) hx hb dX7_readExactly_78 hl (by decide) rfl (fun ls hl => ?_)
            refine lv_iload hx hb dX7_readExactly_80 (lv_at hl 2 rfl) ?_
            refine lv_iconst (v := 1) hx hb dX7_readExactly_82 (by decide) ?_
            refine lv_iload hx hb dX7_readExactly_83 (lv_at hl 1 rfl) ?_
            have hPc := hP.sub (ws' := []) [] rfl
            have hDc := hD.sub (ws' := []) [] (by decide +kernel) rfl
            have hFc := va_free (wc := []) hD hS hA [] rfl
            refine va_calli (va_runS (As := [.int r_5]) (rest := [.int 1, .int p_]) ⟨hx, hb, hml, hown, hts⟩ (f_X2_bytesIn l dC dI cI cS H.size r_5 (by omega)) (va_cwS 1 hts gX7_readExactly_X2_bytesIn rfl rfl rfl (by decide +kernel) ⟨Nat.le_of_ble_eq_true rfl, Nat.le_of_ble_eq_true rfl⟩) ⟨fun a U g mk q => by obtain ⟨q0, q1, qP, qK, qD⟩ := q; exact ⟨q0, q1, qP, va_K.moved (u := U) (U := U.calling g mk a) (Vm.Alike.refl U.vm) qK, qD⟩, fun U hU hW => ⟨rfl, by rw [hU], by rw [hU]; exact hPc, va_K.moved hW.alike hK, hDc.weaken (fun _ _ _ _ => trivial)⟩⟩ rfl rfl hl.1 rfl (lv_room (Nat.le_of_ble_eq_true rfl)) dX7_readExactly_85 ⟨Nat.le_of_ble_eq_true rfl, Nat.le_of_ble_eq_true rfl⟩) hS (fun q _ h => hFc q h) hFc (fun r_10 u t H1 locs ht hvm hw hB hz1 hk1 hSn => ?_)
            subst hw
            obtain ⟨hP1, hD1, hf10_0, hf10_1⟩ := hB
            rw [ht] at hP1
            obtain ⟨hPn, hDn⟩ := va_join (wr := [(oP, .inr (7, [.ref oC, .ref nB, .int (-1)])), (oC, .inr (2, [.ref o4, .ref o5])), (o4, .inr (10, [.ref a41, .ref a42, .ref a43, .int l4])), (a41, .inl (cI, 256, .inl f41)), (o5, .inr (10, [.ref a51, .ref a52, .ref a53, .int l5])), (a51, .inl (cI, 256, .inl f51)), (nz, .inr (5, [.ref az, .int lz])), (az, .inl (cI, cz, .inl fz)), (nd, .inr (5, [.ref ad, .int lu_8])), (ad, .inl (cI, 300, .inl fu_8))]) (w1 := []) hP hD [] [0, 1, 2, 3, 4, 5, 6, 7, 8, 9] rfl rfl (by decide +kernel) (by decide +kernel) hk1 hFc hP1 hD1
            clear hP hD hS hPc hDc hFc hk1 hz1 hvm ht hP1 hD1
            generalize H1 = H at hPn hSn ⊢
            have hP : va_P (dC, dI) vwCl [(oP, .inr (7, [.ref oC, .ref nB, .int (-1)])), (oC, .inr (2, [.ref o4, .ref o5])), (o4, .inr (10, [.ref a41, .ref a42, .ref a43, .int l4])), (a41, .inl (cI, 256, .inl f41)), (o5, .inr (10, [.ref a51, .ref a52, .ref a53, .int l5])), (a51, .inl (cI, 256, .inl f51)), (nz, .inr (5, [.ref az, .int lz])), (az, .inl (cI, cz, .inl fz)), (nd, .inr (5, [.ref ad, .int lu_8])), (ad, .inl (cI, 300, .inl fu_8))] H := hPn
            have hD : va_D A [(oP, .inr (7, [.ref oC, .ref nB, .int (-1)])), (oC, .inr (2, [.ref o4, .ref o5])), (o4, .inr (10, [.ref a41, .ref a42, .ref a43, .int l4])), (a41, .inl (cI, 256, .inl f41)), (o5, .inr (10, [.ref a51, .ref a52, .ref a53, .int l5])), (a51, .inl (cI, 256, .inl f51)), (nz, .inr (5, [.ref az, .int lz])), (az, .inl (cI, cz, .inl fz)), (nd, .inr (5, [.ref ad, .int lu_8])), (ad, .inl (cI, 300, .inl fu_8))] := hDn
            have hS := hSn
            clear hPn hDn hSn
            refine va_mmax hx hb (by rw [hml]; exact hl.1.symm) hown (hts (.methodLink RX7 59 Lib.Math.max.name) (List.mem_of_getElem? (i := 3) rfl)) (hts (.static Lib.Math.max.name) (List.mem_of_getElem? (i := 4) rfl)) (hts (.initialized "java/lang/Math") (List.mem_of_getElem? (i := 5) rfl)) (hts (.code Lib.Math.max.name Lib.Math.max.code 2 (some .int)) (List.mem_of_getElem? (i := 6) rfl)) (Nat.le_of_ble_eq_true rfl) (Nat.le_of_ble_eq_true rfl) (Nat.zero_le _) (Nat.zero_le _) dX7_readExactly_88 ?_
            refine lv_topi (fun x_11 ex_11 => ?_)
            have tx_11 : 1 ≤ x_11.toInt ∧ r_10.toInt ≤ x_11.toInt ∧ (x_11.toInt = 1 ∨ x_11.toInt = r_10.toInt) := v_max ex_11
            refine lv_iadd hx hb dX7_readExactly_91 ?_
            refine lv_topi (fun x_12 ex_12 => ?_)
            have tx_12 : x_12.toInt = p_.toInt + x_11.toInt := v_add ex_12 (by show -2147483648 ≤ p_.toInt + x_11.toInt; omega) (by show p_.toInt + x_11.toInt < 2147483648; omega)
            refine lv_istore (lv' := [(5, .int x_12), (4, .int 0), (6, .int r_5), (0, .ref oP), (1, .int cd), (2, .ref nz), (3, .ref nd)]) hx hb dX7_readExactly_92 hl (by decide) rfl (fun ls hl => ?_)
            refine lv_goto (tgt := 16) hx hb dX7_readExactly_94 (by decide) ?_
            exact ih_16 0 x_12 lu_8 fu_8 _ _ _ (ms_lt hm_16 (by show ((lz.toInt - x_12.toInt : Int)) < lz.toInt - p_.toInt; omega) (by show (0 : Int) < lz.toInt - p_.toInt; omega)) (by decide) (by show 0 ≤ x_12.toInt ∧ x_12.toInt ≤ lz.toInt; omega) (by show 0 ≤ lu_8.toInt ∧ lu_8.toInt ≤ 300; omega) (RX_s hrx (by omega) hd9.1 (by rw [hd9.2]; exact v_inj (by omega)) (by omega) hf8_2 (by have e0 : (0 : Int32).toInt = 0 := rfl; have e1 : (1 : Int32).toInt = 1 := rfl; omega) (by omega)) (hP.sub [0, 6, 7, 9, 1, 2, 3, 4, 5, 8] rfl) (hD.sub [0, 6, 7, 9, 1, 2, 3, 4, 5, 8] (by decide +kernel) rfl) hS (lv_sub hl [0, 1, 3, 4, 5, 6] rfl)
          · have tc_9 : ¬ r_8.toInt = 0 := v_ne c_9
            refine lv_iload hx hb dX7_readExactly_68 (lv_at hl 2 rfl) ?_
            refine lv_if_eq (tgt := 77) hx hb dX7_readExactly_70 (by decide) (fun c_13 => ?_) (fun c_13 => ?_)
            · have tc_13 : fi.toInt = 0 := v_eq c_13
              refine lv_iconst (v := 0) hx hb dX7_readExactly_77 (by decide) ?_
              refine lv_istore (lv' := [(4, .int 0), (6, .int r_5), (5, .int p_), (0, .ref oP), (1, .int cd), (2, .ref nz), (3, .ref nd)]) hx hb dX7_readExactly_78 hl (by decide) rfl (fun ls hl => ?_)
              refine lv_iload hx hb dX7_readExactly_80 (lv_at hl 2 rfl) ?_
              refine lv_iconst (v := 1) hx hb dX7_readExactly_82 (by decide) ?_
              refine lv_iload hx hb dX7_readExactly_83 (lv_at hl 1 rfl) ?_
              have hPc := hP.sub (ws' := []) [] rfl
              have hDc := hD.sub (ws' := []) [] (by decide +kernel) rfl
              have hFc := va_free (wc := []) hD hS hA [] rfl
              refine va_calli (va_runS (As := [.int r_5]) (rest := [.int 1, .int p_]) ⟨hx, hb, hml, hown, hts⟩ (f_X2_bytesIn l dC dI cI cS H.size r_5 (by omega)) (va_cwS 1 hts gX7_readExactly_X2_bytesIn rfl rfl rfl (by decide +kernel) ⟨Nat.le_of_ble_eq_true rfl, Nat.le_of_ble_eq_true rfl⟩) ⟨fun a U g mk q => by obtain ⟨q0, q1, qP, qK, qD⟩ := q; exact ⟨q0, q1, qP, va_K.moved (u := U) (U := U.calling g mk a) (Vm.Alike.refl U.vm) qK, qD⟩, fun U hU hW => ⟨rfl, by rw [hU], by rw [hU]; exact hPc, va_K.moved hW.alike hK, hDc.weaken (fun _ _ _ _ => trivial)⟩⟩ rfl rfl hl.1 rfl (lv_room (Nat.le_of_ble_eq_true rfl)) dX7_readExactly_85 ⟨Nat.le_of_ble_eq_true rfl, Nat.le_of_ble_eq_true rfl⟩) hS (fun q _ h => hFc q h) hFc (fun r_14 u t H1 locs ht hvm hw hB hz1 hk1 hSn => ?_)
              subst hw
              obtain ⟨hP1, hD1, hf14_0, hf14_1⟩ := hB
              rw [ht] at hP1
              obtain ⟨hPn, hDn⟩ := va_join (wr := [(oP, .inr (7, [.ref oC, .ref nB, .int (-1)])), (oC, .inr (2, [.ref o4, .ref o5])), (o4, .inr (10, [.ref a41, .ref a42, .ref a43, .int l4])), (a41, .inl (cI, 256, .inl f41)), (o5, .inr (10, [.ref a51, .ref a52, .ref a53, .int l5])), (a51, .inl (cI, 256, .inl f51)), (nz, .inr (5, [.ref az, .int lz])), (az, .inl (cI, cz, .inl fz)), (nd, .inr (5, [.ref ad, .int lu_8])), (ad, .inl (cI, 300, .inl fu_8))]) (w1 := []) hP hD [] [0, 1, 2, 3, 4, 5, 6, 7, 8, 9] rfl rfl (by decide +kernel) (by decide +kernel) hk1 hFc hP1 hD1
              clear hP hD hS hPc hDc hFc hk1 hz1 hvm ht hP1 hD1
              generalize H1 = H at hPn hSn ⊢
              have hP : va_P (dC, dI) vwCl [(oP, .inr (7, [.ref oC, .ref nB, .int (-1)])), (oC, .inr (2, [.ref o4, .ref o5])), (o4, .inr (10, [.ref a41, .ref a42, .ref a43, .int l4])), (a41, .inl (cI, 256, .inl f41)), (o5, .inr (10, [.ref a51, .ref a52, .ref a53, .int l5])), (a51, .inl (cI, 256, .inl f51)), (nz, .inr (5, [.ref az, .int lz])), (az, .inl (cI, cz, .inl fz)), (nd, .inr (5, [.ref ad, .int lu_8])), (ad, .inl (cI, 300, .inl fu_8))] H := hPn
              have hD : va_D A [(oP, .inr (7, [.ref oC, .ref nB, .int (-1)])), (oC, .inr (2, [.ref o4, .ref o5])), (o4, .inr (10, [.ref a41, .ref a42, .ref a43, .int l4])), (a41, .inl (cI, 256, .inl f41)), (o5, .inr (10, [.ref a51, .ref a52, .ref a53, .int l5])), (a51, .inl (cI, 256, .inl f51)), (nz, .inr (5, [.ref az, .int lz])), (az, .inl (cI, cz, .inl fz)), (nd, .inr (5, [.ref ad, .int lu_8])), (ad, .inl (cI, 300, .inl fu_8))] := hDn
              have hS := hSn
              clear hPn hDn hSn
              refine va_mmax hx hb (by rw [hml]; exact hl.1.symm) hown (hts (.methodLink RX7 59 Lib.Math.max.name) (List.mem_of_getElem? (i := 3) rfl)) (hts (.static Lib.Math.max.name) (List.mem_of_getElem? (i := 4) rfl)) (hts (.initialized "java/lang/Math") (List.mem_of_getElem? (i := 5) rfl)) (hts (.code Lib.Math.max.name Lib.Math.max.code 2 (some .int)) (List.mem_of_getElem? (i := 6) rfl)) (Nat.le_of_ble_eq_true rfl) (Nat.le_of_ble_eq_true rfl) (Nat.zero_le _) (Nat.zero_le _) dX7_readExactly_88 ?_
              refine lv_topi (fun x_15 ex_15 => ?_)
              have tx_15 : 1 ≤ x_15.toInt ∧ r_14.toInt ≤ x_15.toInt ∧ (x_15.toInt = 1 ∨ x_15.toInt = r_14.toInt) := v_max ex_15
              refine lv_iadd hx hb dX7_readExactly_91 ?_
              refine lv_topi (fun x_16 ex_16 => ?_)
              have tx_16 : x_16.toInt = p_.toInt + x_15.toInt := v_add ex_16 (by show -2147483648 ≤ p_.toInt + x_15.toInt; omega) (by show p_.toInt + x_15.toInt < 2147483648; omega)
              refine lv_istore (lv' := [(5, .int x_16), (4, .int 0), (6, .int r_5), (0, .ref oP), (1, .int cd), (2, .ref nz), (3, .ref nd)]) hx hb dX7_readExactly_92 hl (by decide) rfl (fun ls hl => ?_)
              refine lv_goto (tgt := 16) hx hb dX7_readExactly_94 (by decide) ?_
              exact ih_16 0 x_16 lu_8 fu_8 _ _ _ (ms_lt hm_16 (by show ((lz.toInt - x_16.toInt : Int)) < lz.toInt - p_.toInt; omega) (by show (0 : Int) < lz.toInt - p_.toInt; omega)) (by decide) (by show 0 ≤ x_16.toInt ∧ x_16.toInt ≤ lz.toInt; omega) (by show 0 ≤ lu_8.toInt ∧ lu_8.toInt ≤ 300; omega) (RX_s hrx (by omega) hd9.1 (by rw [hd9.2]; exact v_inj (by omega)) (by omega) hf8_2 (by have e0 : (0 : Int32).toInt = 0 := rfl; have e1 : (1 : Int32).toInt = 1 := rfl; omega) (by omega)) (hP.sub [0, 6, 7, 9, 1, 2, 3, 4, 5, 8] rfl) (hD.sub [0, 6, 7, 9, 1, 2, 3, 4, 5, 8] (by decide +kernel) rfl) hS (lv_sub hl [0, 1, 3, 4, 5, 6] rfl)
            · have tc_13 : ¬ fi.toInt = 0 := v_ne c_13
              refine lv_iconst (v := 1) hx hb dX7_readExactly_73 (by decide) ?_
              refine lv_goto (tgt := 78) hx hb dX7_readExactly_74 (by decide) ?_
              refine lv_istore (lv' := [(4, .int 1), (6, .int r_5), (5, .int p_), (0, .ref oP), (1, .int cd), (2, .ref nz), (3, .ref nd)]) hx hb dX7_readExactly_78 hl (by decide) rfl (fun ls hl => ?_)
              refine lv_iload hx hb dX7_readExactly_80 (lv_at hl 2 rfl) ?_
              refine lv_iconst (v := 1) hx hb dX7_readExactly_82 (by decide) ?_
              refine lv_iload hx hb dX7_readExactly_83 (lv_at hl 1 rfl) ?_
              have hPc := hP.sub (ws' := []) [] rfl
              have hDc := hD.sub (ws' := []) [] (by decide +kernel) rfl
              have hFc := va_free (wc := []) hD hS hA [] rfl
              refine va_calli (va_runS (As := [.int r_5]) (rest := [.int 1, .int p_]) ⟨hx, hb, hml, hown, hts⟩ (f_X2_bytesIn l dC dI cI cS H.size r_5 (by omega)) (va_cwS 1 hts gX7_readExactly_X2_bytesIn rfl rfl rfl (by decide +kernel) ⟨Nat.le_of_ble_eq_true rfl, Nat.le_of_ble_eq_true rfl⟩) ⟨fun a U g mk q => by obtain ⟨q0, q1, qP, qK, qD⟩ := q; exact ⟨q0, q1, qP, va_K.moved (u := U) (U := U.calling g mk a) (Vm.Alike.refl U.vm) qK, qD⟩, fun U hU hW => ⟨rfl, by rw [hU], by rw [hU]; exact hPc, va_K.moved hW.alike hK, hDc.weaken (fun _ _ _ _ => trivial)⟩⟩ rfl rfl hl.1 rfl (lv_room (Nat.le_of_ble_eq_true rfl)) dX7_readExactly_85 ⟨Nat.le_of_ble_eq_true rfl, Nat.le_of_ble_eq_true rfl⟩) hS (fun q _ h => hFc q h) hFc (fun r_17 u t H1 locs ht hvm hw hB hz1 hk1 hSn => ?_)
              subst hw
              obtain ⟨hP1, hD1, hf17_0, hf17_1⟩ := hB
              rw [ht] at hP1
              obtain ⟨hPn, hDn⟩ := va_join (wr := [(oP, .inr (7, [.ref oC, .ref nB, .int (-1)])), (oC, .inr (2, [.ref o4, .ref o5])), (o4, .inr (10, [.ref a41, .ref a42, .ref a43, .int l4])), (a41, .inl (cI, 256, .inl f41)), (o5, .inr (10, [.ref a51, .ref a52, .ref a53, .int l5])), (a51, .inl (cI, 256, .inl f51)), (nz, .inr (5, [.ref az, .int lz])), (az, .inl (cI, cz, .inl fz)), (nd, .inr (5, [.ref ad, .int lu_8])), (ad, .inl (cI, 300, .inl fu_8))]) (w1 := []) hP hD [] [0, 1, 2, 3, 4, 5, 6, 7, 8, 9] rfl rfl (by decide +kernel) (by decide +kernel) hk1 hFc hP1 hD1
              clear hP hD hS hPc hDc hFc hk1 hz1 hvm ht hP1 hD1
              generalize H1 = H at hPn hSn ⊢
              have hP : va_P (dC, dI) vwCl [(oP, .inr (7, [.ref oC, .ref nB, .int (-1)])), (oC, .inr (2, [.ref o4, .ref o5])), (o4, .inr (10, [.ref a41, .ref a42, .ref a43, .int l4])), (a41, .inl (cI, 256, .inl f41)), (o5, .inr (10, [.ref a51, .ref a52, .ref a53, .int l5])), (a51, .inl (cI, 256, .inl f51)), (nz, .inr (5, [.ref az, .int lz])), (az, .inl (cI, cz, .inl fz)), (nd, .inr (5, [.ref ad, .int lu_8])), (ad, .inl (cI, 300, .inl fu_8))] H := hPn
              have hD : va_D A [(oP, .inr (7, [.ref oC, .ref nB, .int (-1)])), (oC, .inr (2, [.ref o4, .ref o5])), (o4, .inr (10, [.ref a41, .ref a42, .ref a43, .int l4])), (a41, .inl (cI, 256, .inl f41)), (o5, .inr (10, [.ref a51, .ref a52, .ref a53, .int l5])), (a51, .inl (cI, 256, .inl f51)), (nz, .inr (5, [.ref az, .int lz])), (az, .inl (cI, cz, .inl fz)), (nd, .inr (5, [.ref ad, .int lu_8])), (ad, .inl (cI, 300, .inl fu_8))] := hDn
              have hS := hSn
              clear hPn hDn hSn
              refine va_mmax hx hb (by rw [hml]; exact hl.1.symm) hown (hts (.methodLink RX7 59 Lib.Math.max.name) (List.mem_of_getElem? (i := 3) rfl)) (hts (.static Lib.Math.max.name) (List.mem_of_getElem? (i := 4) rfl)) (hts (.initialized "java/lang/Math") (List.mem_of_getElem? (i := 5) rfl)) (hts (.code Lib.Math.max.name Lib.Math.max.code 2 (some .int)) (List.mem_of_getElem? (i := 6) rfl)) (Nat.le_of_ble_eq_true rfl) (Nat.le_of_ble_eq_true rfl) (Nat.zero_le _) (Nat.zero_le _) dX7_readExactly_88 ?_
              refine lv_topi (fun x_18 ex_18 => ?_)
              have tx_18 : 1 ≤ x_18.toInt ∧ r_17.toInt ≤ x_18.toInt ∧ (x_18.toInt = 1 ∨ x_18.toInt = r_17.toInt) := v_max ex_18
              refine lv_iadd hx hb dX7_readExactly_91 ?_
              refine lv_topi (fun x_19 ex_19 => ?_)
              have tx_19 : x_19.toInt = p_.toInt + x_18.toInt := v_add ex_19 (by show -2147483648 ≤ p_.toInt + x_18.toInt; omega) (by show p_.toInt + x_18.toInt < 2147483648; omega)
              refine lv_istore (lv' := [(5, .int x_19), (4, .int 1), (6, .int r_5), (0, .ref oP), (1, .int cd), (2, .ref nz), (3, .ref nd)]) hx hb dX7_readExactly_92 hl (by decide) rfl (fun ls hl => ?_)
              refine lv_goto (tgt := 16) hx hb dX7_readExactly_94 (by decide) ?_
              exact ih_16 1 x_19 lu_8 fu_8 _ _ _ (ms_lt hm_16 (by show ((lz.toInt - x_19.toInt : Int)) < lz.toInt - p_.toInt; omega) (by show (0 : Int) < lz.toInt - p_.toInt; omega)) (by decide) (by show 0 ≤ x_19.toInt ∧ x_19.toInt ≤ lz.toInt; omega) (by show 0 ≤ lu_8.toInt ∧ lu_8.toInt ≤ 300; omega) (RX_s hrx (by omega) hd9.1 (by rw [hd9.2]; exact v_inj (by omega)) (by omega) hf8_2 (by have e0 : (0 : Int32).toInt = 0 := rfl; have e1 : (1 : Int32).toInt = 1 := rfl; omega) (by omega)) (hP.sub [0, 6, 7, 9, 1, 2, 3, 4, 5, 8] rfl) (hD.sub [0, 6, 7, 9, 1, 2, 3, 4, 5, 8] (by decide +kernel) rfl) hS (lv_sub hl [0, 1, 3, 4, 5, 6] rfl)
        · have tc_6 : r_5.toInt = (-1) := v_eq c_6
          refine lv_aload_n hx hb dX7_readExactly_48 rfl (lv_at hl 3 rfl) ?_
          refine lv_iload hx hb dX7_readExactly_49 (lv_at hl 1 rfl) ?_
          refine va_put (D := (dC, dI)) (ci := 7) (v := .int p_) (ty := .int) (C := RX7) (T := TX7) (N := 3) hx hb hts in_X7 tyX7 tyX7_ok nmX7 hown hK hP hD hS 0 rfl rfl 2 (by decide) (hts (.fieldLink RX7 24 "TextMender$Passage" "fault" "I") (List.mem_of_getElem? (i := 1) rfl)) (fun _ h9 => h9) rfl (by decide +kernel) rfl rfl (Nat.le_of_ble_eq_true rfl) dX7_readExactly_51 (fun H locs hPn hDn hSn => ?_)
          clear hP hD hS
          have hP : va_P (dC, dI) vwCl [(oP, .inr (7, [.ref oC, .ref nB, .int p_])), (ad, .inl (cI, 300, .inl f2)), (nd, .inr (5, [.ref ad, .int l2])), (oC, .inr (2, [.ref o4, .ref o5])), (o4, .inr (10, [.ref a41, .ref a42, .ref a43, .int l4])), (a41, .inl (cI, 256, .inl f41)), (o5, .inr (10, [.ref a51, .ref a52, .ref a53, .int l5])), (a51, .inl (cI, 256, .inl f51)), (nz, .inr (5, [.ref az, .int lz])), (az, .inl (cI, cz, .inl fz))] H := hPn
          have hD : va_D A [(oP, .inr (7, [.ref oC, .ref nB, .int p_])), (ad, .inl (cI, 300, .inl f2)), (nd, .inr (5, [.ref ad, .int l2])), (oC, .inr (2, [.ref o4, .ref o5])), (o4, .inr (10, [.ref a41, .ref a42, .ref a43, .int l4])), (a41, .inl (cI, 256, .inl f41)), (o5, .inr (10, [.ref a51, .ref a52, .ref a53, .int l5])), (a51, .inl (cI, 256, .inl f51)), (nz, .inr (5, [.ref az, .int lz])), (az, .inl (cI, cz, .inl fz))] := hDn
          have hS := hSn
          clear hPn hDn hSn
          refine lv_iconst (v := 0) hx hb dX7_readExactly_54 (by decide) ?_
          have hP9 := hP.sub (ws' := [(oP, .inr (7, [.ref oC, .ref nB, .int p_])), (nz, .inr (5, [.ref az, .int lz])), (az, .inl (cI, cz, .inl fz)), (nd, .inr (5, [.ref ad, .int l2])), (ad, .inl (cI, 300, .inl f2)), (oC, .inr (2, [.ref o4, .ref o5])), (o4, .inr (10, [.ref a41, .ref a42, .ref a43, .int l4])), (a41, .inl (cI, 256, .inl f41)), (o5, .inr (10, [.ref a51, .ref a52, .ref a53, .int l5])), (a51, .inl (cI, 256, .inl f51))]) [0, 8, 9, 2, 1, 3, 4, 5, 6, 7] rfl
          have hD9 := hD.sub (ws' := [(oP, .inr (7, [.ref oC, .ref nB, .int p_])), (nz, .inr (5, [.ref az, .int lz])), (az, .inl (cI, cz, .inl fz)), (nd, .inr (5, [.ref ad, .int l2])), (ad, .inl (cI, 300, .inl f2)), (oC, .inr (2, [.ref o4, .ref o5])), (o4, .inr (10, [.ref a41, .ref a42, .ref a43, .int l4])), (a41, .inl (cI, 256, .inl f41)), (o5, .inr (10, [.ref a51, .ref a52, .ref a53, .int l5])), (a51, .inl (cI, 256, .inl f51))]) [0, 8, 9, 2, 1, 3, 4, 5, 6, 7] (by decide +kernel) rfl
          rw [hQQ]
          exact W.zret (v := 0) (ty := .boolean) hx hb hr (rfl) (fun t ht hW => ⟨⟨0, 0, rfl, rfl, ⟨p_, l2, f2, by rw [ht]; exact hP9, hD9, g_l2, by decide, RX_bad hrx (by omega) (F_dc_0 hf5_0 c_6)⟩⟩, hS.F ht⟩) hS.2.2 dX7_readExactly_55
  exact LOOP_16 _ 1 0 lu_1 fd _ _ _ (ms_s _) (by decide) (by show 0 ≤ (0 : Int) ∧ (0 : Int) ≤ lz.toInt; omega) (by show 0 ≤ lu_1.toInt ∧ lu_1.toInt ≤ 300; omega) (RX_0 rfl rfl (by omega)) hP hD hS (lv_sub hl [0, 1, 2, 3, 4, 5] rfl)

end

/-! 59d.dec -/
section
set_option maxHeartbeats 40000000 in
set_option maxRecDepth 100000 in
theorem f_X12_byteAt (l : Launch) (dC : Nat → ClassId) (dI : Nat → Nat → Nat) (cI cS : ClassId) (sz : Nat) (oM : Nat) (mT : Nat) (mS : Nat) (mX : Nat) (mL : Nat) (mB : Nat) (mD : Nat) (m1 : Nat) (m2 : Nat) (mR : Nat) (x1 : Nat) (x2 : Nat) (x3 : Nat) (mH : Nat) (mY : Nat) (mE : Nat) (mW : Nat) (mO : Nat) (y1 : Nat) (y2 : Nat) (y3 : Nat) (y4 : Nat) (mZ : Nat) (zt : Int32) (zp : Int32) (zf : Int32) (zh : Int32) (zr : Int32) (zc : Int32) (zy : Int32) (za : Int32) (zb : Int32) (zs : Int32) (zq : Int32) (zw : Int32) (ze : Int32) (zn : Int32) (zm : Int32) (zl : Int32) (zk : Int32) (zd : Int32) (eY : Nat → Int32) (q : Int32) (g_zt : 0 ≤ zt.toInt ∧ zt.toInt ≤ 900) (g_zp : 0 ≤ zp.toInt ∧ zp.toInt ≤ 20) (g_zf : 0 ≤ zf.toInt ∧ zf.toInt ≤ 19) (g_zh : 0 ≤ zh.toInt ∧ zh.toInt ≤ 6) (g_zr : 0 ≤ zr.toInt ∧ zr.toInt ≤ 258) (g_zc : 0 ≤ zc.toInt ∧ zc.toInt ≤ 300) (g_zy : 0 ≤ zy.toInt ∧ zy.toInt ≤ 65536) (g_za : 0 ≤ za.toInt ∧ za.toInt ≤ 5) (g_zb : 0 ≤ zb.toInt ∧ zb.toInt ≤ 5) (g_zs : 0 ≤ zs.toInt ∧ zs.toInt ≤ 2000000) (g_zq : -1 ≤ zq.toInt ∧ zq.toInt ≤ 2000000) (g_zn : 0 ≤ zn.toInt ∧ zn.toInt ≤ 2600) (g_zm : 0 ≤ zm.toInt ∧ zm.toInt ≤ 2600) (g_zk : 0 ≤ zk.toInt ∧ zk.toInt ≤ 300) (g_eY : rg 0 255 eY) (g_q : 0 ≤ q.toInt ∧ q.toInt ≤ 2700) : Met l yX12_byteAt wsX12_byteAt ({ frames := 0, cells := 0, slots := 0, locals := 0 } : Room) (va_Pc [.ref oM, .int q] (fun U => U.heap.size = sz ∧ va_P (dC, dI) vwCl [(oM, .inr (12, [.ref mT, .int zt, .ref mS, .ref mX, .int zp, .int zf, .ref mL, .ref mB, .ref mD, .ref m1, .ref m2, .int zh, .ref mR, .int zr, .ref x1, .ref x2, .ref x3, .int zc, .ref mH, .int zy, .int za, .int zb, .int zs, .int zq, .int zw, .int ze, .ref mY, .int zn, .ref mE, .int zm, .int zl, .ref mW, .int zk, .ref mO, .int zd, .ref y1, .ref y2, .ref y3, .ref y4, .ref mZ])), (mY, .inl (cI, 2600, .inl eY))] U.heap ∧ va_K (dC, dI) vwCl [(cI, .int), (cS, .short)] U ∧ va_D (fun _ => True) [(oM, .inr (12, [.ref mT, .int zt, .ref mS, .ref mX, .int zp, .int zf, .ref mL, .ref mB, .ref mD, .ref m1, .ref m2, .int zh, .ref mR, .int zr, .ref x1, .ref x2, .ref x3, .int zc, .ref mH, .int zy, .int za, .int zb, .int zs, .int zq, .int zw, .int ze, .ref mY, .int zn, .ref mE, .int zm, .int zl, .ref mW, .int zk, .ref mO, .int zd, .ref y1, .ref y2, .ref y3, .ref y4, .ref mZ])), (mY, .inl (cI, 2600, .inl eY))])) (va_Qi (fun (r : Int32) (u : Int32) => r = u) (fun (r : Int32) t => va_P (dC, dI) vwCl [(oM, .inr (12, [.ref mT, .int zt, .ref mS, .ref mX, .int zp, .int zf, .ref mL, .ref mB, .ref mD, .ref m1, .ref m2, .int zh, .ref mR, .int zr, .ref x1, .ref x2, .ref x3, .int zc, .ref mH, .int zy, .int za, .int zb, .int zs, .int zq, .int zw, .int ze, .ref mY, .int zn, .ref mE, .int zm, .int zl, .ref mW, .int zk, .ref mO, .int zd, .ref y1, .ref y2, .ref y3, .ref y4, .ref mZ])), (mY, .inl (cI, 2600, .inl eY))] t.heap ∧ va_D (va_A [(oM, .inr (12, [.ref mT, .int zt, .ref mS, .ref mX, .int zp, .int zf, .ref mL, .ref mB, .ref mD, .ref m1, .ref m2, .int zh, .ref mR, .int zr, .ref x1, .ref x2, .ref x3, .int zc, .ref mH, .int zy, .int za, .int zb, .int zs, .int zq, .int zw, .int ze, .ref mY, .int zn, .ref mE, .int zm, .int zl, .ref mW, .int zk, .ref mO, .int zd, .ref y1, .ref y2, .ref y3, .ref y4, .ref mZ])), (mY, .inl (cI, 2600, .inl eY))] sz) [(oM, .inr (12, [.ref mT, .int zt, .ref mS, .ref mX, .int zp, .int zf, .ref mL, .ref mB, .ref mD, .ref m1, .ref m2, .int zh, .ref mR, .int zr, .ref x1, .ref x2, .ref x3, .int zc, .ref mH, .int zy, .int za, .int zb, .int zs, .int zq, .int zw, .int ze, .ref mY, .int zn, .ref mE, .int zm, .int zl, .ref mW, .int zk, .ref mO, .int zd, .ref y1, .ref y2, .ref y3, .ref y4, .ref mZ])), (mY, .inl (cI, 2600, .inl eY))] ∧ (-1 ≤ r.toInt ∧ r.toInt ≤ 255) ∧ ((q.toInt < zn.toInt ∧ 0 ≤ r.toInt) ∨ (zn.toInt ≤ q.toInt ∧ r.toInt = -1)) ∧ (r.toInt = bt eY zn.toInt q.toNatClampNeg)) (va_A [(oM, .inr (12, [.ref mT, .int zt, .ref mS, .ref mX, .int zp, .int zf, .ref mL, .ref mB, .ref mD, .ref m1, .ref m2, .int zh, .ref mR, .int zr, .ref x1, .ref x2, .ref x3, .int zc, .ref mH, .int zy, .int za, .int zb, .int zs, .int zq, .int zw, .int ze, .ref mY, .int zn, .ref mE, .int zm, .int zl, .ref mW, .int zk, .ref mO, .int zd, .ref y1, .ref y2, .ref y3, .ref y4, .ref mZ])), (mY, .inl (cI, 2600, .inl eY))] sz)) 0 0 (va_A [(oM, .inr (12, [.ref mT, .int zt, .ref mS, .ref mX, .int zp, .int zf, .ref mL, .ref mB, .ref mD, .ref m1, .ref m2, .int zh, .ref mR, .int zr, .ref x1, .ref x2, .ref x3, .int zc, .ref mH, .int zy, .int za, .int zb, .int zs, .int zq, .int zw, .int ze, .ref mY, .int zn, .ref mE, .int zm, .int zl, .ref mW, .int zk, .ref mO, .int zd, .ref y1, .ref y2, .ref y3, .ref y4, .ref mZ])), (mY, .inl (cI, 2600, .inl eY))] sz) := by
  refine Met.ofW (cc := cX12_byteAt) (maxL := 2) (ret := (some .int)) (by decide) rfl ?_
  intro p e s m args below meth c s₁ B hml hv
  obtain ⟨rfl, hsz, hP, hK, hD0⟩ := hv
  have hx := B.exec
  have hb := B.bytes
  have hr := B.returns
  have hts := atoms_spec (ws := wsX12_byteAt) B.pre
  have hown : s.vm.findClass RX12 = some m.cls := findClass_of_methodNamed B.named
  have hlocks := B.notSynchronized
  have in_X12 : ∀ w ∈ wsX120, w ∈ wsX12_byteAt := fun _ h => List.mem_cons_of_mem _ (List.mem_append_right _ (h))
  subst hsz
  have hD := hD0.self (sz := s.heap.size)
  generalize hAe : va_A [(oM, .inr (12, [.ref mT, .int zt, .ref mS, .ref mX, .int zp, .int zf, .ref mL, .ref mB, .ref mD, .ref m1, .ref m2, .int zh, .ref mR, .int zr, .ref x1, .ref x2, .ref x3, .int zc, .ref mH, .int zy, .int za, .int zb, .int zs, .int zq, .int zw, .int ze, .ref mY, .int zn, .ref mE, .int zm, .int zl, .ref mW, .int zk, .ref mO, .int zd, .ref y1, .ref y2, .ref y3, .ref y4, .ref mZ])), (mY, .inl (cI, 2600, .inl eY))] s.heap.size = A at hD ⊢
  have hA : ∀ q : Nat, s.heap.size ≤ q → A q := fun q h => by rw [← hAe]; exact Or.inr h
  have hS : va_S A s.heap s.heap [] := va_S.rf
  have hP : va_P (dC, dI) vwCl [(oM, .inr (12, [.ref mT, .int zt, .ref mS, .ref mX, .int zp, .int zf, .ref mL, .ref mB, .ref mD, .ref m1, .ref m2, .int zh, .ref mR, .int zr, .ref x1, .ref x2, .ref x3, .int zc, .ref mH, .int zy, .int za, .int zb, .int zs, .int zq, .int zw, .int ze, .ref mY, .int zn, .ref mE, .int zm, .int zl, .ref mW, .int zk, .ref mO, .int zd, .ref y1, .ref y2, .ref y3, .ref y4, .ref mZ])), (mY, .inl (cI, 2600, .inl eY))] s.heap := hP
  have hl := lv_entry ([.ref oM, .int q]) (n := 2) (Nat.le_of_ble_eq_true rfl)
  rw [lg_entry_eq]
  generalize (lg_sl ([.ref oM, .int q]) ++ List.replicate (2 - (lg_sl ([.ref oM, .int q])).length) Slot.unset).toArray = ls at hl ⊢
  have hl : lv_has ls 2 [(0, .ref oM), (1, .int q)] := hl
  obtain ⟨QQ, hQQ⟩ : ∃ QQ : Array Value → State → Outcome → State → Prop, QQ = va_Qi (fun (r : Int32) (u : Int32) => r = u) (fun (r : Int32) t => va_P (dC, dI) vwCl [(oM, .inr (12, [.ref mT, .int zt, .ref mS, .ref mX, .int zp, .int zf, .ref mL, .ref mB, .ref mD, .ref m1, .ref m2, .int zh, .ref mR, .int zr, .ref x1, .ref x2, .ref x3, .int zc, .ref mH, .int zy, .int za, .int zb, .int zs, .int zq, .int zw, .int ze, .ref mY, .int zn, .ref mE, .int zm, .int zl, .ref mW, .int zk, .ref mO, .int zd, .ref y1, .ref y2, .ref y3, .ref y4, .ref mZ])), (mY, .inl (cI, 2600, .inl eY))] t.heap ∧ va_D A [(oM, .inr (12, [.ref mT, .int zt, .ref mS, .ref mX, .int zp, .int zf, .ref mL, .ref mB, .ref mD, .ref m1, .ref m2, .int zh, .ref mR, .int zr, .ref x1, .ref x2, .ref x3, .int zc, .ref mH, .int zy, .int za, .int zb, .int zs, .int zq, .int zw, .int ze, .ref mY, .int zn, .ref mE, .int zm, .int zl, .ref mW, .int zk, .ref mO, .int zd, .ref y1, .ref y2, .ref y3, .ref y4, .ref mZ])), (mY, .inl (cI, 2600, .inl eY))] ∧ (-1 ≤ r.toInt ∧ r.toInt ≤ 255) ∧ ((q.toInt < zn.toInt ∧ 0 ≤ r.toInt) ∨ (zn.toInt ≤ q.toInt ∧ r.toInt = -1)) ∧ (r.toInt = bt eY zn.toInt q.toNatClampNeg)) A := ⟨_, rfl⟩
  rw [← hQQ]
  refine lv_iload_n hx hb dX12_byteAt_0 rfl (lv_at hl 1 rfl) ?_
  refine lv_aload_n hx hb dX12_byteAt_1 rfl (lv_at hl 0 rfl) ?_
  refine va_get (D := (dC, dI)) (ci := 12) (v := .int zn) (C := RX12) (T := TX12) (N := 40) hx hb hts in_X12 hown hK hP 0 rfl rfl 27 (by decide) (hts (.fieldLink RX12 91 "TextMenderModel" "byteMany" "I") (List.mem_of_getElem? (i := 1) rfl)) (fun _ h9 => h9) rfl dX12_byteAt_2 ?_
  refine lv_icmp_ge (tgt := 17) hx hb dX12_byteAt_5 (by decide) (fun c_1 => ?_) (fun c_1 => ?_)
  · have tc_1 : zn.toInt ≤ q.toInt := v_le c_1
    refine lv_iconst (v := (-1)) hx hb dX12_byteAt_17 (by decide) ?_
    have hP9 := hP.sub (ws' := [(oM, .inr (12, [.ref mT, .int zt, .ref mS, .ref mX, .int zp, .int zf, .ref mL, .ref mB, .ref mD, .ref m1, .ref m2, .int zh, .ref mR, .int zr, .ref x1, .ref x2, .ref x3, .int zc, .ref mH, .int zy, .int za, .int zb, .int zs, .int zq, .int zw, .int ze, .ref mY, .int zn, .ref mE, .int zm, .int zl, .ref mW, .int zk, .ref mO, .int zd, .ref y1, .ref y2, .ref y3, .ref y4, .ref mZ])), (mY, .inl (cI, 2600, .inl eY))]) [0, 1] rfl
    have hD9 := hD.sub (ws' := [(oM, .inr (12, [.ref mT, .int zt, .ref mS, .ref mX, .int zp, .int zf, .ref mL, .ref mB, .ref mD, .ref m1, .ref m2, .int zh, .ref mR, .int zr, .ref x1, .ref x2, .ref x3, .int zc, .ref mH, .int zy, .int za, .int zb, .int zs, .int zq, .int zw, .int ze, .ref mY, .int zn, .ref mE, .int zm, .int zl, .ref mW, .int zk, .ref mO, .int zd, .ref y1, .ref y2, .ref y3, .ref y4, .ref mZ])), (mY, .inl (cI, 2600, .inl eY))]) [0, 1] (by decide +kernel) rfl
    rw [hQQ]
    exact W.iret (v := (-1)) hx hb hr (fun t ht hW => ⟨⟨(-1), (-1), rfl, rfl, ⟨by rw [ht]; exact hP9, hD9, by decide, by show (q.toInt < zn.toInt ∧ 0 ≤ (-1)) ∨ (zn.toInt ≤ q.toInt ∧ (-1) = -1); omega, by rw [bt_out (by have c9 := v_clamp (x := q) (by omega); omega)]; rfl⟩⟩, hS.F ht⟩) hS.2.2 dX12_byteAt_18
  · have tc_1 : q.toInt < zn.toInt := v_nle c_1
    refine lv_aload_n hx hb dX12_byteAt_8 rfl (lv_at hl 0 rfl) ?_
    refine va_get (D := (dC, dI)) (ci := 12) (v := .ref mY) (C := RX12) (T := TX12) (N := 40) hx hb hts in_X12 hown hK hP 0 rfl rfl 26 (by decide) (hts (.fieldLink RX12 58 "TextMenderModel" "bytes" "[I") (List.mem_of_getElem? (i := 2) rfl)) (fun _ h9 => h9) rfl dX12_byteAt_9 ?_
    refine lv_iload_n hx hb dX12_byteAt_12 rfl (lv_at hl 1 rfl) ?_
    refine va_iald hx hb hK hP 1 0 rfl rfl (v_in (by omega)) dX12_byteAt_13 ?_
    refine lv_topi (fun x_2 ex_2 => ?_)
    have tx_2 : 0 ≤ x_2.toInt ∧ x_2.toInt ≤ 255 := rg_at g_eY ex_2
    refine lv_goto (tgt := 18) hx hb dX12_byteAt_14 (by decide) ?_
    have hP9 := hP.sub (ws' := [(oM, .inr (12, [.ref mT, .int zt, .ref mS, .ref mX, .int zp, .int zf, .ref mL, .ref mB, .ref mD, .ref m1, .ref m2, .int zh, .ref mR, .int zr, .ref x1, .ref x2, .ref x3, .int zc, .ref mH, .int zy, .int za, .int zb, .int zs, .int zq, .int zw, .int ze, .ref mY, .int zn, .ref mE, .int zm, .int zl, .ref mW, .int zk, .ref mO, .int zd, .ref y1, .ref y2, .ref y3, .ref y4, .ref mZ])), (mY, .inl (cI, 2600, .inl eY))]) [0, 1] rfl
    have hD9 := hD.sub (ws' := [(oM, .inr (12, [.ref mT, .int zt, .ref mS, .ref mX, .int zp, .int zf, .ref mL, .ref mB, .ref mD, .ref m1, .ref m2, .int zh, .ref mR, .int zr, .ref x1, .ref x2, .ref x3, .int zc, .ref mH, .int zy, .int za, .int zb, .int zs, .int zq, .int zw, .int ze, .ref mY, .int zn, .ref mE, .int zm, .int zl, .ref mW, .int zk, .ref mO, .int zd, .ref y1, .ref y2, .ref y3, .ref y4, .ref mZ])), (mY, .inl (cI, 2600, .inl eY))]) [0, 1] (by decide +kernel) rfl
    rw [hQQ]
    exact W.iret (v := x_2) hx hb hr (fun t ht hW => ⟨⟨x_2, x_2, rfl, rfl, ⟨by rw [ht]; exact hP9, hD9, by omega, by show (q.toInt < zn.toInt ∧ 0 ≤ x_2.toInt) ∨ (zn.toInt ≤ q.toInt ∧ x_2.toInt = -1); omega, rd_bt ex_2 (by have c9 := v_clamp (x := q) (by omega); omega) (by have c9 := v_clamp (x := q) (by omega); omega)⟩⟩, hS.F ht⟩) hS.2.2 dX12_byteAt_18

set_option maxHeartbeats 40000000 in
set_option maxRecDepth 100000 in
theorem f_X12_readAt (l : Launch) (dC : Nat → ClassId) (dI : Nat → Nat → Nat) (cI cS : ClassId) (sz : Nat) (oM : Nat) (mT : Nat) (mS : Nat) (mX : Nat) (mL : Nat) (mB : Nat) (mD : Nat) (m1 : Nat) (m2 : Nat) (mR : Nat) (x1 : Nat) (x2 : Nat) (x3 : Nat) (mH : Nat) (mY : Nat) (mE : Nat) (mW : Nat) (mO : Nat) (y1 : Nat) (y2 : Nat) (y3 : Nat) (y4 : Nat) (mZ : Nat) (zt : Int32) (zp : Int32) (zf : Int32) (zh : Int32) (zr : Int32) (zc : Int32) (zy : Int32) (za : Int32) (zb : Int32) (zs : Int32) (zq : Int32) (zw : Int32) (ze : Int32) (zn : Int32) (zm : Int32) (zl : Int32) (zk : Int32) (zd : Int32) (eY : Nat → Int32) (eL : Nat → Int32) (cd : Int32) (q : Int32) (g_zt : 0 ≤ zt.toInt ∧ zt.toInt ≤ 900) (g_zp : 0 ≤ zp.toInt ∧ zp.toInt ≤ 20) (g_zf : 0 ≤ zf.toInt ∧ zf.toInt ≤ 19) (g_zh : 0 ≤ zh.toInt ∧ zh.toInt ≤ 6) (g_zr : 0 ≤ zr.toInt ∧ zr.toInt ≤ 258) (g_zc : 0 ≤ zc.toInt ∧ zc.toInt ≤ 300) (g_zy : 0 ≤ zy.toInt ∧ zy.toInt ≤ 65536) (g_za : 0 ≤ za.toInt ∧ za.toInt ≤ 5) (g_zb : 0 ≤ zb.toInt ∧ zb.toInt ≤ 5) (g_zs : 0 ≤ zs.toInt ∧ zs.toInt ≤ 2000000) (g_zq : -1 ≤ zq.toInt ∧ zq.toInt ≤ 2000000) (g_zn : 0 ≤ zn.toInt ∧ zn.toInt ≤ 2600) (g_zm : 0 ≤ zm.toInt ∧ zm.toInt ≤ 2600) (g_zk : 0 ≤ zk.toInt ∧ zk.toInt ≤ 300) (g_eY : rg 0 255 eY) (g_eL : rg (-1) 65535 eL) (g_cd : 0 ≤ cd.toInt ∧ cd.toInt ≤ 5) (g_q : 0 ≤ q.toInt ∧ q.toInt ≤ 2599) (hqn : q.toInt < zn.toInt) : Met l yX12_readAt wsX12_readAt ({ frames := 1, cells := 0, slots := 0, locals := 21 } : Room) (va_Pc [.ref oM, .int cd, .int q] (fun U => U.heap.size = sz ∧ va_P (dC, dI) vwCl [(oM, .inr (12, [.ref mT, .int zt, .ref mS, .ref mX, .int zp, .int zf, .ref mL, .ref mB, .ref mD, .ref m1, .ref m2, .int zh, .ref mR, .int zr, .ref x1, .ref x2, .ref x3, .int zc, .ref mH, .int zy, .int za, .int zb, .int zs, .int zq, .int zw, .int ze, .ref mY, .int zn, .ref mE, .int zm, .int zl, .ref mW, .int zk, .ref mO, .int zd, .ref y1, .ref y2, .ref y3, .ref y4, .ref mZ])), (mY, .inl (cI, 2600, .inl eY)), (mL, .inl (cI, 512, .inl eL))] U.heap ∧ va_K (dC, dI) vwCl [(cI, .int), (cS, .short)] U ∧ va_D (fun _ => True) [(oM, .inr (12, [.ref mT, .int zt, .ref mS, .ref mX, .int zp, .int zf, .ref mL, .ref mB, .ref mD, .ref m1, .ref m2, .int zh, .ref mR, .int zr, .ref x1, .ref x2, .ref x3, .int zc, .ref mH, .int zy, .int za, .int zb, .int zs, .int zq, .int zw, .int ze, .ref mY, .int zn, .ref mE, .int zm, .int zl, .ref mW, .int zk, .ref mO, .int zd, .ref y1, .ref y2, .ref y3, .ref y4, .ref mZ])), (mY, .inl (cI, 2600, .inl eY)), (mL, .inl (cI, 512, .inl eL))])) (va_Qi (fun (r : Int32) (u : Int32) => r = u) (fun (r : Int32) t => ∃ (zd' : Int32), va_P (dC, dI) vwCl [(oM, .inr (12, [.ref mT, .int zt, .ref mS, .ref mX, .int zp, .int zf, .ref mL, .ref mB, .ref mD, .ref m1, .ref m2, .int zh, .ref mR, .int zr, .ref x1, .ref x2, .ref x3, .int zc, .ref mH, .int zy, .int za, .int zb, .int zs, .int zq, .int zw, .int ze, .ref mY, .int zn, .ref mE, .int zm, .int zl, .ref mW, .int zk, .ref mO, .int zd', .ref y1, .ref y2, .ref y3, .ref y4, .ref mZ])), (mY, .inl (cI, 2600, .inl eY)), (mL, .inl (cI, 512, .inl eL))] t.heap ∧ va_D (va_A [(oM, .inr (12, [.ref mT, .int zt, .ref mS, .ref mX, .int zp, .int zf, .ref mL, .ref mB, .ref mD, .ref m1, .ref m2, .int zh, .ref mR, .int zr, .ref x1, .ref x2, .ref x3, .int zc, .ref mH, .int zy, .int za, .int zb, .int zs, .int zq, .int zw, .int ze, .ref mY, .int zn, .ref mE, .int zm, .int zl, .ref mW, .int zk, .ref mO, .int zd, .ref y1, .ref y2, .ref y3, .ref y4, .ref mZ])), (mY, .inl (cI, 2600, .inl eY)), (mL, .inl (cI, 512, .inl eL))] sz) [(oM, .inr (12, [.ref mT, .int zt, .ref mS, .ref mX, .int zp, .int zf, .ref mL, .ref mB, .ref mD, .ref m1, .ref m2, .int zh, .ref mR, .int zr, .ref x1, .ref x2, .ref x3, .int zc, .ref mH, .int zy, .int za, .int zb, .int zs, .int zq, .int zw, .int ze, .ref mY, .int zn, .ref mE, .int zm, .int zl, .ref mW, .int zk, .ref mO, .int zd', .ref y1, .ref y2, .ref y3, .ref y4, .ref mZ])), (mY, .inl (cI, 2600, .inl eY)), (mL, .inl (cI, 512, .inl eL))] ∧ (0 ≤ r.toInt ∧ r.toInt ≤ 9) ∧ (r.toInt = 0 ∨ (0 ≤ zd'.toInt ∧ zd'.toInt ≤ 65535)) ∧ (F_ra r cd zd' (fun k => eL k) (fun k => eL (256 + k)) eY zn.toInt q.toNatClampNeg)) (va_A [(oM, .inr (12, [.ref mT, .int zt, .ref mS, .ref mX, .int zp, .int zf, .ref mL, .ref mB, .ref mD, .ref m1, .ref m2, .int zh, .ref mR, .int zr, .ref x1, .ref x2, .ref x3, .int zc, .ref mH, .int zy, .int za, .int zb, .int zs, .int zq, .int zw, .int ze, .ref mY, .int zn, .ref mE, .int zm, .int zl, .ref mW, .int zk, .ref mO, .int zd, .ref y1, .ref y2, .ref y3, .ref y4, .ref mZ])), (mY, .inl (cI, 2600, .inl eY)), (mL, .inl (cI, 512, .inl eL))] sz)) 0 0 (va_A [(oM, .inr (12, [.ref mT, .int zt, .ref mS, .ref mX, .int zp, .int zf, .ref mL, .ref mB, .ref mD, .ref m1, .ref m2, .int zh, .ref mR, .int zr, .ref x1, .ref x2, .ref x3, .int zc, .ref mH, .int zy, .int za, .int zb, .int zs, .int zq, .int zw, .int ze, .ref mY, .int zn, .ref mE, .int zm, .int zl, .ref mW, .int zk, .ref mO, .int zd, .ref y1, .ref y2, .ref y3, .ref y4, .ref mZ])), (mY, .inl (cI, 2600, .inl eY)), (mL, .inl (cI, 512, .inl eL))] sz) := by
  refine Met.ofW (cc := cX12_readAt) (maxL := 7) (ret := (some .int)) (by decide) rfl ?_
  intro p e s m args below meth c s₁ B hml hv
  obtain ⟨rfl, hsz, hP, hK, hD0⟩ := hv
  have hx := B.exec
  have hb := B.bytes
  have hr := B.returns
  have hts := atoms_spec (ws := wsX12_readAt) B.pre
  have hown : s.vm.findClass RX12 = some m.cls := findClass_of_methodNamed B.named
  have hlocks := B.notSynchronized
  have in_X12 : ∀ w ∈ wsX120, w ∈ wsX12_readAt := fun _ h => List.mem_cons_of_mem _ (List.mem_append_right _ (h))
  subst hsz
  have hD := hD0.self (sz := s.heap.size)
  generalize hAe : va_A [(oM, .inr (12, [.ref mT, .int zt, .ref mS, .ref mX, .int zp, .int zf, .ref mL, .ref mB, .ref mD, .ref m1, .ref m2, .int zh, .ref mR, .int zr, .ref x1, .ref x2, .ref x3, .int zc, .ref mH, .int zy, .int za, .int zb, .int zs, .int zq, .int zw, .int ze, .ref mY, .int zn, .ref mE, .int zm, .int zl, .ref mW, .int zk, .ref mO, .int zd, .ref y1, .ref y2, .ref y3, .ref y4, .ref mZ])), (mY, .inl (cI, 2600, .inl eY)), (mL, .inl (cI, 512, .inl eL))] s.heap.size = A at hD ⊢
  have hA : ∀ q : Nat, s.heap.size ≤ q → A q := fun q h => by rw [← hAe]; exact Or.inr h
  have hS : va_S A s.heap s.heap [] := va_S.rf
  have hP : va_P (dC, dI) vwCl [(oM, .inr (12, [.ref mT, .int zt, .ref mS, .ref mX, .int zp, .int zf, .ref mL, .ref mB, .ref mD, .ref m1, .ref m2, .int zh, .ref mR, .int zr, .ref x1, .ref x2, .ref x3, .int zc, .ref mH, .int zy, .int za, .int zb, .int zs, .int zq, .int zw, .int ze, .ref mY, .int zn, .ref mE, .int zm, .int zl, .ref mW, .int zk, .ref mO, .int zd, .ref y1, .ref y2, .ref y3, .ref y4, .ref mZ])), (mY, .inl (cI, 2600, .inl eY)), (mL, .inl (cI, 512, .inl eL))] s.heap := hP
  have hl := lv_entry ([.ref oM, .int cd, .int q]) (n := 7) (Nat.le_of_ble_eq_true rfl)
  rw [lg_entry_eq]
  generalize (lg_sl ([.ref oM, .int cd, .int q]) ++ List.replicate (7 - (lg_sl ([.ref oM, .int cd, .int q])).length) Slot.unset).toArray = ls at hl ⊢
  have hl : lv_has ls 7 [(0, .ref oM), (1, .int cd), (2, .int q)] := hl
  obtain ⟨QQ, hQQ⟩ : ∃ QQ : Array Value → State → Outcome → State → Prop, QQ = va_Qi (fun (r : Int32) (u : Int32) => r = u) (fun (r : Int32) t => ∃ (zd' : Int32), va_P (dC, dI) vwCl [(oM, .inr (12, [.ref mT, .int zt, .ref mS, .ref mX, .int zp, .int zf, .ref mL, .ref mB, .ref mD, .ref m1, .ref m2, .int zh, .ref mR, .int zr, .ref x1, .ref x2, .ref x3, .int zc, .ref mH, .int zy, .int za, .int zb, .int zs, .int zq, .int zw, .int ze, .ref mY, .int zn, .ref mE, .int zm, .int zl, .ref mW, .int zk, .ref mO, .int zd', .ref y1, .ref y2, .ref y3, .ref y4, .ref mZ])), (mY, .inl (cI, 2600, .inl eY)), (mL, .inl (cI, 512, .inl eL))] t.heap ∧ va_D A [(oM, .inr (12, [.ref mT, .int zt, .ref mS, .ref mX, .int zp, .int zf, .ref mL, .ref mB, .ref mD, .ref m1, .ref m2, .int zh, .ref mR, .int zr, .ref x1, .ref x2, .ref x3, .int zc, .ref mH, .int zy, .int za, .int zb, .int zs, .int zq, .int zw, .int ze, .ref mY, .int zn, .ref mE, .int zm, .int zl, .ref mW, .int zk, .ref mO, .int zd', .ref y1, .ref y2, .ref y3, .ref y4, .ref mZ])), (mY, .inl (cI, 2600, .inl eY)), (mL, .inl (cI, 512, .inl eL))] ∧ (0 ≤ r.toInt ∧ r.toInt ≤ 9) ∧ (r.toInt = 0 ∨ (0 ≤ zd'.toInt ∧ zd'.toInt ≤ 65535)) ∧ (F_ra r cd zd' (fun k => eL k) (fun k => eL (256 + k)) eY zn.toInt q.toNatClampNeg)) A := ⟨_, rfl⟩
  rw [← hQQ]
  have c0 := v_clamp (x := q) (by omega)
  have z0 : (0 : Int32).toInt = 0 := rfl
  refine lv_aload_n hx hb dX12_readAt_0 rfl (lv_at hl 0 rfl) ?_
  refine va_get (D := (dC, dI)) (ci := 12) (v := .ref mY) (C := RX12) (T := TX12) (N := 40) hx hb hts in_X12 hown hK hP 0 rfl rfl 26 (by decide) (hts (.fieldLink RX12 58 "TextMenderModel" "bytes" "[I") (List.mem_of_getElem? (i := 1) rfl)) (fun _ h9 => h9) rfl dX12_readAt_1 ?_
  refine lv_iload_n hx hb dX12_readAt_4 rfl (lv_at hl 2 rfl) ?_
  refine va_iald hx hb hK hP 1 0 rfl rfl (v_in (by omega)) dX12_readAt_5 ?_
  refine lv_topi (fun x_1 ex_1 => ?_)
  have tx_1 : 0 ≤ x_1.toInt ∧ x_1.toInt ≤ 255 := rg_at g_eY ex_1
  have hb0 : x_1.toInt = bt eY zn.toInt q.toNatClampNeg := rd_bt ex_1 (by omega) (by omega)
  refine lv_istore_n (lv' := [(3, .int x_1), (0, .ref oM), (1, .int cd), (2, .int q)]) hx hb dX12_readAt_6 rfl hl (by decide) rfl (fun ls hl => ?_)
  refine lv_aload_n hx hb dX12_readAt_7 rfl (lv_at hl 1 rfl) ?_
  refine lv_iload_n hx hb dX12_readAt_8 rfl (lv_at hl 0 rfl) ?_
  refine va_put (D := (dC, dI)) (ci := 12) (v := .int x_1) (ty := .int) (C := RX12) (T := TX12) (N := 40) hx hb hts in_X12 tyX12 tyX12_ok nmX12 hown hK hP hD hS 0 rfl rfl 34 (by decide) (hts (.fieldLink RX12 105 "TextMenderModel" "readLetter" "I") (List.mem_of_getElem? (i := 2) rfl)) (fun _ h9 => h9) rfl (by decide +kernel) rfl rfl (Nat.le_of_ble_eq_true rfl) dX12_readAt_9 (fun H locs hPn hDn hSn => ?_)
  clear hP hD hS
  have hP : va_P (dC, dI) vwCl [(oM, .inr (12, [.ref mT, .int zt, .ref mS, .ref mX, .int zp, .int zf, .ref mL, .ref mB, .ref mD, .ref m1, .ref m2, .int zh, .ref mR, .int zr, .ref x1, .ref x2, .ref x3, .int zc, .ref mH, .int zy, .int za, .int zb, .int zs, .int zq, .int zw, .int ze, .ref mY, .int zn, .ref mE, .int zm, .int zl, .ref mW, .int zk, .ref mO, .int x_1, .ref y1, .ref y2, .ref y3, .ref y4, .ref mZ])), (mY, .inl (cI, 2600, .inl eY)), (mL, .inl (cI, 512, .inl eL))] H := hPn
  have hD : va_D A [(oM, .inr (12, [.ref mT, .int zt, .ref mS, .ref mX, .int zp, .int zf, .ref mL, .ref mB, .ref mD, .ref m1, .ref m2, .int zh, .ref mR, .int zr, .ref x1, .ref x2, .ref x3, .int zc, .ref mH, .int zy, .int za, .int zb, .int zs, .int zq, .int zw, .int ze, .ref mY, .int zn, .ref mE, .int zm, .int zl, .ref mW, .int zk, .ref mO, .int x_1, .ref y1, .ref y2, .ref y3, .ref y4, .ref mZ])), (mY, .inl (cI, 2600, .inl eY)), (mL, .inl (cI, 512, .inl eL))] := hDn
  have hS := hSn
  clear hPn hDn hSn
  refine lv_iload_n hx hb dX12_readAt_12 rfl (lv_at hl 2 rfl) ?_
  refine lv_iconst (v := 2) hx hb dX12_readAt_13 (by decide) ?_
  refine lv_icmp_ge (tgt := 39) hx hb dX12_readAt_14 (by decide) (fun c_2 => ?_) (fun c_2 => ?_)
  · have tc_2 : 2 ≤ cd.toInt := v_le c_2
    refine lv_iload_n hx hb dX12_readAt_39 rfl (lv_at hl 2 rfl) ?_
    refine lv_iconst (v := 3) hx hb dX12_readAt_40 (by decide) ?_
    refine lv_icmp_le (tgt := 76) hx hb dX12_readAt_41 (by decide) (fun c_3 => ?_) (fun c_3 => ?_)
    · have tc_3 : cd.toInt ≤ 3 := v_le c_3
      refine lv_iload_n hx hb dX12_readAt_76 rfl (lv_at hl 0 rfl) ?_
      refine lv_bipush (v := 127) hx hb dX12_readAt_77 (by decide) ?_
      refine lv_icmp_le (tgt := 89) hx hb dX12_readAt_79 (by decide) (fun c_4 => ?_) (fun c_4 => ?_)
      · have tc_4 : x_1.toInt ≤ 127 := v_le c_4
        refine lv_iload_n hx hb dX12_readAt_89 rfl (lv_at hl 0 rfl) ?_
        refine lv_sipush (v := 128) hx hb dX12_readAt_90 (by decide) ?_
        refine lv_icmp_ge (tgt := 109) hx hb dX12_readAt_93 (by decide) (fun c_5 => by exfalso; have tc_5 : 128 ≤ x_1.toInt := v_le c_5; omega) (fun c_5 => ?_)
        have tc_5 : x_1.toInt < 128 := v_nle c_5
        refine lv_iload_n hx hb dX12_readAt_96 rfl (lv_at hl 2 rfl) ?_
        refine lv_iconst (v := 2) hx hb dX12_readAt_97 (by decide) ?_
        refine lv_icmp_eq (tgt := 107) hx hb dX12_readAt_98 (by decide) (fun c_6 => ?_) (fun c_6 => ?_)
        · have tc_6 : cd.toInt = 2 := v_eq c_6
          refine lv_iconst (v := 1) hx hb dX12_readAt_107 (by decide) ?_
          have hP9 := hP.sub (ws' := [(oM, .inr (12, [.ref mT, .int zt, .ref mS, .ref mX, .int zp, .int zf, .ref mL, .ref mB, .ref mD, .ref m1, .ref m2, .int zh, .ref mR, .int zr, .ref x1, .ref x2, .ref x3, .int zc, .ref mH, .int zy, .int za, .int zb, .int zs, .int zq, .int zw, .int ze, .ref mY, .int zn, .ref mE, .int zm, .int zl, .ref mW, .int zk, .ref mO, .int x_1, .ref y1, .ref y2, .ref y3, .ref y4, .ref mZ])), (mY, .inl (cI, 2600, .inl eY)), (mL, .inl (cI, 512, .inl eL))]) [0, 1, 2] rfl
          have hD9 := hD.sub (ws' := [(oM, .inr (12, [.ref mT, .int zt, .ref mS, .ref mX, .int zp, .int zf, .ref mL, .ref mB, .ref mD, .ref m1, .ref m2, .int zh, .ref mR, .int zr, .ref x1, .ref x2, .ref x3, .int zc, .ref mH, .int zy, .int za, .int zb, .int zs, .int zq, .int zw, .int ze, .ref mY, .int zn, .ref mE, .int zm, .int zl, .ref mW, .int zk, .ref mO, .int x_1, .ref y1, .ref y2, .ref y3, .ref y4, .ref mZ])), (mY, .inl (cI, 2600, .inl eY)), (mL, .inl (cI, 512, .inl eL))]) [0, 1, 2] (by decide +kernel) rfl
          rw [hQQ]
          exact W.iret (v := 1) hx hb hr (fun t ht hW => ⟨⟨1, 1, rfl, rfl, ⟨x_1, by rw [ht]; exact hP9, hD9, by decide, by show 1 = 0 ∨ (0 ≤ x_1.toInt ∧ x_1.toInt ≤ 65535); omega, Or.inl ⟨1, rfl, by omega, Or.inl ⟨rfl, (by rw [← ex_1]; first | (unfold alF; (repeat (first | rw [if_pos (by omega)] | rw [if_neg (by omega)])); done) | (exfalso; omega)), v_nn (by omega)⟩⟩⟩⟩, hS.F ht⟩) hS.2.2 dX12_readAt_108
        · have tc_6 : ¬ cd.toInt = 2 := v_ne c_6
          refine lv_iload_n hx hb dX12_readAt_101 rfl (lv_at hl 0 rfl) ?_
          refine lv_bipush (v := 38) hx hb dX12_readAt_102 (by decide) ?_
          refine lv_icmp_eq (tgt := 109) hx hb dX12_readAt_104 (by decide) (fun c_7 => ?_) (fun c_7 => ?_)
          · have tc_7 : x_1.toInt = 38 := v_eq c_7
            refine lv_iload_n hx hb dX12_readAt_109 rfl (lv_at hl 2 rfl) ?_
            refine lv_iconst (v := 2) hx hb dX12_readAt_110 (by decide) ?_
            refine lv_icmp_ne (tgt := 264) hx hb dX12_readAt_111 (by decide) (fun c_8 => ?_) (fun c_8 => by exfalso; have tc_8 : cd.toInt = 2 := v_eq c_8; omega)
            have tc_8 : ¬ cd.toInt = 2 := v_ne c_8
            refine lv_aload_n hx hb dX12_readAt_264 rfl (lv_at hl 1 rfl) ?_
            refine lv_iload_n hx hb dX12_readAt_265 rfl (lv_at hl 3 rfl) ?_
            refine lv_iconst (v := 1) hx hb dX12_readAt_266 (by decide) ?_
            refine lv_iadd hx hb dX12_readAt_267 ?_
            refine lv_topi (fun x_9 ex_9 => ?_)
            have tx_9 : x_9.toInt = q.toInt + 1 := v_add ex_9 (by show -2147483648 ≤ q.toInt + 1; omega) (by show q.toInt + 1 < 2147483648; omega)
            have hPc := hP.sub (ws' := [(oM, .inr (12, [.ref mT, .int zt, .ref mS, .ref mX, .int zp, .int zf, .ref mL, .ref mB, .ref mD, .ref m1, .ref m2, .int zh, .ref mR, .int zr, .ref x1, .ref x2, .ref x3, .int zc, .ref mH, .int zy, .int za, .int zb, .int zs, .int zq, .int zw, .int ze, .ref mY, .int zn, .ref mE, .int zm, .int zl, .ref mW, .int zk, .ref mO, .int x_1, .ref y1, .ref y2, .ref y3, .ref y4, .ref mZ])), (mY, .inl (cI, 2600, .inl eY))]) [0, 1] rfl
            have hDc := hD.sub (ws' := [(oM, .inr (12, [.ref mT, .int zt, .ref mS, .ref mX, .int zp, .int zf, .ref mL, .ref mB, .ref mD, .ref m1, .ref m2, .int zh, .ref mR, .int zr, .ref x1, .ref x2, .ref x3, .int zc, .ref mH, .int zy, .int za, .int zb, .int zs, .int zq, .int zw, .int ze, .ref mY, .int zn, .ref mE, .int zm, .int zl, .ref mW, .int zk, .ref mO, .int x_1, .ref y1, .ref y2, .ref y3, .ref y4, .ref mZ])), (mY, .inl (cI, 2600, .inl eY))]) [0, 1] (by decide +kernel) rfl
            have hFc := va_free (wc := [(oM, .inr (12, [.ref mT, .int zt, .ref mS, .ref mX, .int zp, .int zf, .ref mL, .ref mB, .ref mD, .ref m1, .ref m2, .int zh, .ref mR, .int zr, .ref x1, .ref x2, .ref x3, .int zc, .ref mH, .int zy, .int za, .int zb, .int zs, .int zq, .int zw, .int ze, .ref mY, .int zn, .ref mE, .int zm, .int zl, .ref mW, .int zk, .ref mO, .int x_1, .ref y1, .ref y2, .ref y3, .ref y4, .ref mZ])), (mY, .inl (cI, 2600, .inl eY))]) hD hS hA [0, 1] rfl
            refine va_calli (va_runV (As := [.int x_9]) (rest := []) ⟨hx, hb, hml, hown, hts⟩ (f_X12_byteAt l dC dI cI cS H.size oM mT mS mX mL mB mD m1 m2 mR x1 x2 x3 mH mY mE mW mO y1 y2 y3 y4 mZ zt zp zf zh zr zc zy za zb zs zq zw ze zn zm zl zk x_1 eY x_9 (g_zt) (g_zp) (g_zf) (g_zh) (g_zr) (g_zc) (g_zy) (g_za) (g_zb) (g_zs) (g_zq) (g_zn) (g_zm) (g_zk) (g_eY) (by omega)) (cwV 1 hts gX12_readAt_X12_byteAt rfl rfl rfl (by decide +kernel) ⟨Nat.le_of_ble_eq_true rfl, Nat.le_of_ble_eq_true rfl⟩) ⟨fun a U g mk q => by obtain ⟨q0, q1, qP, qK, qD⟩ := q; exact ⟨q0, q1, qP, va_K.moved (u := U) (U := U.calling g mk a) (Vm.Alike.refl U.vm) qK, qD⟩, va_recv hK hPc (ci := 12) (q0 := 0) rfl rfl, fun U hU hW => ⟨rfl, by rw [hU], by rw [hU]; exact hPc, va_K.moved hW.alike hK, hDc.weaken (fun _ _ _ _ => trivial)⟩⟩ rfl rfl hl.1 rfl (lv_room (Nat.le_of_ble_eq_true rfl)) dX12_readAt_268 ⟨Nat.le_of_ble_eq_true rfl, Nat.le_of_ble_eq_true rfl⟩) hS (fun q _ h => hFc q h) hFc (fun r_10 u t H1 locs ht hvm hw hB hz1 hk1 hSn => ?_)
            subst hw
            obtain ⟨hP1, hD1, hf10_0, hf10_1, hf10_2⟩ := hB
            rw [ht] at hP1
            obtain ⟨hPn, hDn⟩ := va_join (wr := [(mL, .inl (cI, 512, .inl eL))]) (w1 := [(oM, .inr (12, [.ref mT, .int zt, .ref mS, .ref mX, .int zp, .int zf, .ref mL, .ref mB, .ref mD, .ref m1, .ref m2, .int zh, .ref mR, .int zr, .ref x1, .ref x2, .ref x3, .int zc, .ref mH, .int zy, .int za, .int zb, .int zs, .int zq, .int zw, .int ze, .ref mY, .int zn, .ref mE, .int zm, .int zl, .ref mW, .int zk, .ref mO, .int x_1, .ref y1, .ref y2, .ref y3, .ref y4, .ref mZ])), (mY, .inl (cI, 2600, .inl eY))]) hP hD [0, 1] [2] rfl rfl (by decide +kernel) (by decide +kernel) hk1 hFc hP1 hD1
            clear hP hD hS hPc hDc hFc hk1 hz1 hvm ht hP1 hD1
            generalize H1 = H at hPn hSn ⊢
            have hP : va_P (dC, dI) vwCl [(mL, .inl (cI, 512, .inl eL)), (oM, .inr (12, [.ref mT, .int zt, .ref mS, .ref mX, .int zp, .int zf, .ref mL, .ref mB, .ref mD, .ref m1, .ref m2, .int zh, .ref mR, .int zr, .ref x1, .ref x2, .ref x3, .int zc, .ref mH, .int zy, .int za, .int zb, .int zs, .int zq, .int zw, .int ze, .ref mY, .int zn, .ref mE, .int zm, .int zl, .ref mW, .int zk, .ref mO, .int x_1, .ref y1, .ref y2, .ref y3, .ref y4, .ref mZ])), (mY, .inl (cI, 2600, .inl eY))] H := hPn
            have hD : va_D A [(mL, .inl (cI, 512, .inl eL)), (oM, .inr (12, [.ref mT, .int zt, .ref mS, .ref mX, .int zp, .int zf, .ref mL, .ref mB, .ref mD, .ref m1, .ref m2, .int zh, .ref mR, .int zr, .ref x1, .ref x2, .ref x3, .int zc, .ref mH, .int zy, .int za, .int zb, .int zs, .int zq, .int zw, .int ze, .ref mY, .int zn, .ref mE, .int zm, .int zl, .ref mW, .int zk, .ref mO, .int x_1, .ref y1, .ref y2, .ref y3, .ref y4, .ref mZ])), (mY, .inl (cI, 2600, .inl eY))] := hDn
            have hS := hSn
            clear hPn hDn hSn
            have hb10 : r_10.toInt = bt eY zn.toInt (q.toNatClampNeg + 1) := bt_ix (k := q.toNatClampNeg + 1) hf10_2 (by omega)
            refine lv_bipush (v := 35) hx hb dX12_readAt_271 (by decide) ?_
            refine lv_icmp_eq (tgt := 278) hx hb dX12_readAt_273 (by decide) (fun c_11 => ?_) (fun c_11 => ?_)
            · have tc_11 : r_10.toInt = 35 := v_eq c_11
              refine lv_iload_n hx hb dX12_readAt_278 rfl (lv_at hl 3 rfl) ?_
              refine lv_iconst (v := 2) hx hb dX12_readAt_279 (by decide) ?_
              refine lv_iadd hx hb dX12_readAt_280 ?_
              refine lv_topi (fun x_12 ex_12 => ?_)
              have tx_12 : x_12.toInt = q.toInt + 2 := v_add ex_12 (by show -2147483648 ≤ q.toInt + 2; omega) (by show q.toInt + 2 < 2147483648; omega)
              refine lv_istore (lv' := [(4, .int x_12), (3, .int x_1), (0, .ref oM), (1, .int cd), (2, .int q)]) hx hb dX12_readAt_281 hl (by decide) rfl (fun ls hl => ?_)
              refine lv_iconst (v := 0) hx hb dX12_readAt_283 (by decide) ?_
              refine lv_istore (lv' := [(5, .int 0), (4, .int x_12), (3, .int x_1), (0, .ref oM), (1, .int cd), (2, .int q)]) hx hb dX12_readAt_284 hl (by decide) rfl (fun ls hl => ?_)
              have LOOP_286 : ∀ (k_286 : Nat) (qq : Int32) (x : Int32) (H : Heap) (locs : List Loc) (ls : Array Slot), MSd (q.toInt + 8 - qq.toInt : Int) k_286 → (2 ≤ qq.toInt ∧ qq.toInt ≤ 2608) → (0 ≤ x.toInt ∧ x.toInt ≤ 999999) → (q.toInt + 2 ≤ qq.toInt ∧ qq.toInt ≤ q.toInt + 8) → (NJ (bo eY zn.toInt q.toNatClampNeg) (qq.toInt - q.toInt - 2).toNat x.toInt) → va_P (dC, dI) vwCl [(mL, .inl (cI, 512, .inl eL)), (oM, .inr (12, [.ref mT, .int zt, .ref mS, .ref mX, .int zp, .int zf, .ref mL, .ref mB, .ref mD, .ref m1, .ref m2, .int zh, .ref mR, .int zr, .ref x1, .ref x2, .ref x3, .int zc, .ref mH, .int zy, .int za, .int zb, .int zs, .int zq, .int zw, .int ze, .ref mY, .int zn, .ref mE, .int zm, .int zl, .ref mW, .int zk, .ref mO, .int x_1, .ref y1, .ref y2, .ref y3, .ref y4, .ref mZ])), (mY, .inl (cI, 2600, .inl eY))] H → va_D A [(mL, .inl (cI, 512, .inl eL)), (oM, .inr (12, [.ref mT, .int zt, .ref mS, .ref mX, .int zp, .int zf, .ref mL, .ref mB, .ref mD, .ref m1, .ref m2, .int zh, .ref mR, .int zr, .ref x1, .ref x2, .ref x3, .int zc, .ref mH, .int zy, .int za, .int zb, .int zs, .int zq, .int zw, .int ze, .ref mY, .int zn, .ref mE, .int zm, .int zl, .ref mW, .int zk, .ref mO, .int x_1, .ref y1, .ref y2, .ref y3, .ref y4, .ref mZ])), (mY, .inl (cI, 2600, .inl eY))] → va_S A s.heap H locs → lv_has ls 7 [(5, .int x), (4, .int qq), (3, .int x_1), (0, .ref oM), (1, .int cd), (2, .int q)] → W p l e (headSpec wsX12_readAt ({ frames := 1, cells := 0, slots := 0, locals := 21 } : Room)).room s m ([.ref oM, .int cd, .int q] : List Value).toArray below meth c H locs 0 0 (MQ below QQ ([.ref oM, .int cd, .int q] : List Value).toArray s 0 0 A) (F0 m 286 ls []) := by
                clear hP hD hS hl
                intro k_286
                induction k_286 with
                | zero =>
                  intro qq x H locs ls hm_286 g_qq g_x hqq hnj hP hD hS hl
                  exact ms_0 hm_286
                | succ k_286 ih_286 =>
                  intro qq x H locs ls hm_286 g_qq g_x hqq hnj hP hD hS hl
                  refine lv_aload_n hx hb dX12_readAt_286 rfl (lv_at hl 3 rfl) ?_
                  refine lv_iload hx hb dX12_readAt_287 (lv_at hl 1 rfl) ?_
                  have hPc := hP.sub (ws' := [(oM, .inr (12, [.ref mT, .int zt, .ref mS, .ref mX, .int zp, .int zf, .ref mL, .ref mB, .ref mD, .ref m1, .ref m2, .int zh, .ref mR, .int zr, .ref x1, .ref x2, .ref x3, .int zc, .ref mH, .int zy, .int za, .int zb, .int zs, .int zq, .int zw, .int ze, .ref mY, .int zn, .ref mE, .int zm, .int zl, .ref mW, .int zk, .ref mO, .int x_1, .ref y1, .ref y2, .ref y3, .ref y4, .ref mZ])), (mY, .inl (cI, 2600, .inl eY))]) [1, 2] rfl
                  have hDc := hD.sub (ws' := [(oM, .inr (12, [.ref mT, .int zt, .ref mS, .ref mX, .int zp, .int zf, .ref mL, .ref mB, .ref mD, .ref m1, .ref m2, .int zh, .ref mR, .int zr, .ref x1, .ref x2, .ref x3, .int zc, .ref mH, .int zy, .int za, .int zb, .int zs, .int zq, .int zw, .int ze, .ref mY, .int zn, .ref mE, .int zm, .int zl, .ref mW, .int zk, .ref mO, .int x_1, .ref y1, .ref y2, .ref y3, .ref y4, .ref mZ])), (mY, .inl (cI, 2600, .inl eY))]) [1, 2] (by decide +kernel) rfl
                  have hFc := va_free (wc := [(oM, .inr (12, [.ref mT, .int zt, .ref mS, .ref mX, .int zp, .int zf, .ref mL, .ref mB, .ref mD, .ref m1, .ref m2, .int zh, .ref mR, .int zr, .ref x1, .ref x2, .ref x3, .int zc, .ref mH, .int zy, .int za, .int zb, .int zs, .int zq, .int zw, .int ze, .ref mY, .int zn, .ref mE, .int zm, .int zl, .ref mW, .int zk, .ref mO, .int x_1, .ref y1, .ref y2, .ref y3, .ref y4, .ref mZ])), (mY, .inl (cI, 2600, .inl eY))]) hD hS hA [1, 2] rfl
                  refine va_calli (va_runV (As := [.int qq]) (rest := []) ⟨hx, hb, hml, hown, hts⟩ (f_X12_byteAt l dC dI cI cS H.size oM mT mS mX mL mB mD m1 m2 mR x1 x2 x3 mH mY mE mW mO y1 y2 y3 y4 mZ zt zp zf zh zr zc zy za zb zs zq zw ze zn zm zl zk x_1 eY qq (g_zt) (g_zp) (g_zf) (g_zh) (g_zr) (g_zc) (g_zy) (g_za) (g_zb) (g_zs) (g_zq) (g_zn) (g_zm) (g_zk) (g_eY) (by omega)) (cwV 1 hts gX12_readAt_X12_byteAt rfl rfl rfl (by decide +kernel) ⟨Nat.le_of_ble_eq_true rfl, Nat.le_of_ble_eq_true rfl⟩) ⟨fun a U g mk q => by obtain ⟨q0, q1, qP, qK, qD⟩ := q; exact ⟨q0, q1, qP, va_K.moved (u := U) (U := U.calling g mk a) (Vm.Alike.refl U.vm) qK, qD⟩, va_recv hK hPc (ci := 12) (q0 := 0) rfl rfl, fun U hU hW => ⟨rfl, by rw [hU], by rw [hU]; exact hPc, va_K.moved hW.alike hK, hDc.weaken (fun _ _ _ _ => trivial)⟩⟩ rfl rfl hl.1 rfl (lv_room (Nat.le_of_ble_eq_true rfl)) dX12_readAt_289 ⟨Nat.le_of_ble_eq_true rfl, Nat.le_of_ble_eq_true rfl⟩) hS (fun q _ h => hFc q h) hFc (fun r_13 u t H1 locs ht hvm hw hB hz1 hk1 hSn => ?_)
                  subst hw
                  obtain ⟨hP1, hD1, hf13_0, hf13_1, hf13_2⟩ := hB
                  rw [ht] at hP1
                  obtain ⟨hPn, hDn⟩ := va_join (wr := [(mL, .inl (cI, 512, .inl eL))]) (w1 := [(oM, .inr (12, [.ref mT, .int zt, .ref mS, .ref mX, .int zp, .int zf, .ref mL, .ref mB, .ref mD, .ref m1, .ref m2, .int zh, .ref mR, .int zr, .ref x1, .ref x2, .ref x3, .int zc, .ref mH, .int zy, .int za, .int zb, .int zs, .int zq, .int zw, .int ze, .ref mY, .int zn, .ref mE, .int zm, .int zl, .ref mW, .int zk, .ref mO, .int x_1, .ref y1, .ref y2, .ref y3, .ref y4, .ref mZ])), (mY, .inl (cI, 2600, .inl eY))]) hP hD [1, 2] [0] rfl rfl (by decide +kernel) (by decide +kernel) hk1 hFc hP1 hD1
                  clear hP hD hS hPc hDc hFc hk1 hz1 hvm ht hP1 hD1
                  generalize H1 = H at hPn hSn ⊢
                  have hP : va_P (dC, dI) vwCl [(mL, .inl (cI, 512, .inl eL)), (oM, .inr (12, [.ref mT, .int zt, .ref mS, .ref mX, .int zp, .int zf, .ref mL, .ref mB, .ref mD, .ref m1, .ref m2, .int zh, .ref mR, .int zr, .ref x1, .ref x2, .ref x3, .int zc, .ref mH, .int zy, .int za, .int zb, .int zs, .int zq, .int zw, .int ze, .ref mY, .int zn, .ref mE, .int zm, .int zl, .ref mW, .int zk, .ref mO, .int x_1, .ref y1, .ref y2, .ref y3, .ref y4, .ref mZ])), (mY, .inl (cI, 2600, .inl eY))] H := hPn
                  have hD : va_D A [(mL, .inl (cI, 512, .inl eL)), (oM, .inr (12, [.ref mT, .int zt, .ref mS, .ref mX, .int zp, .int zf, .ref mL, .ref mB, .ref mD, .ref m1, .ref m2, .int zh, .ref mR, .int zr, .ref x1, .ref x2, .ref x3, .int zc, .ref mH, .int zy, .int za, .int zb, .int zs, .int zq, .int zw, .int ze, .ref mY, .int zn, .ref mE, .int zm, .int zl, .ref mW, .int zk, .ref mO, .int x_1, .ref y1, .ref y2, .ref y3, .ref y4, .ref mZ])), (mY, .inl (cI, 2600, .inl eY))] := hDn
                  have hS := hSn
                  clear hPn hDn hSn
                  have hb13 : r_13.toInt = bo eY zn.toInt q.toNatClampNeg (2 + (qq.toInt - q.toInt - 2).toNat) := bt_ix (k := q.toNatClampNeg + (2 + (qq.toInt - q.toInt - 2).toNat)) hf13_2 (by omega)
                  refine lv_bipush (v := 48) hx hb dX12_readAt_292 (by decide) ?_
                  refine lv_icmp_lt (tgt := 356) hx hb dX12_readAt_294 (by decide) (fun c_14 => ?_) (fun c_14 => ?_)
                  · have tc_14 : r_13.toInt < 48 := v_lt c_14
                    have hnr9 := NJ_r hnj
                    refine lv_aload_n hx hb dX12_readAt_356 rfl (lv_at hl 3 rfl) ?_
                    refine lv_iload hx hb dX12_readAt_357 (lv_at hl 0 rfl) ?_
                    refine va_put (D := (dC, dI)) (ci := 12) (v := .int x) (ty := .int) (C := RX12) (T := TX12) (N := 40) hx hb hts in_X12 tyX12 tyX12_ok nmX12 hown hK hP hD hS 1 rfl rfl 34 (by decide) (hts (.fieldLink RX12 105 "TextMenderModel" "readLetter" "I") (List.mem_of_getElem? (i := 2) rfl)) (fun _ h9 => h9) rfl (by decide +kernel) rfl rfl (Nat.le_of_ble_eq_true rfl) dX12_readAt_359 (fun H locs hPn hDn hSn => ?_)
                    clear hP hD hS
                    have hP : va_P (dC, dI) vwCl [(mL, .inl (cI, 512, .inl eL)), (oM, .inr (12, [.ref mT, .int zt, .ref mS, .ref mX, .int zp, .int zf, .ref mL, .ref mB, .ref mD, .ref m1, .ref m2, .int zh, .ref mR, .int zr, .ref x1, .ref x2, .ref x3, .int zc, .ref mH, .int zy, .int za, .int zb, .int zs, .int zq, .int zw, .int ze, .ref mY, .int zn, .ref mE, .int zm, .int zl, .ref mW, .int zk, .ref mO, .int x, .ref y1, .ref y2, .ref y3, .ref y4, .ref mZ])), (mY, .inl (cI, 2600, .inl eY))] H := hPn
                    have hD : va_D A [(mL, .inl (cI, 512, .inl eL)), (oM, .inr (12, [.ref mT, .int zt, .ref mS, .ref mX, .int zp, .int zf, .ref mL, .ref mB, .ref mD, .ref m1, .ref m2, .int zh, .ref mR, .int zr, .ref x1, .ref x2, .ref x3, .int zc, .ref mH, .int zy, .int za, .int zb, .int zs, .int zq, .int zw, .int ze, .ref mY, .int zn, .ref mE, .int zm, .int zl, .ref mW, .int zk, .ref mO, .int x, .ref y1, .ref y2, .ref y3, .ref y4, .ref mZ])), (mY, .inl (cI, 2600, .inl eY))] := hDn
                    have hS := hSn
                    clear hPn hDn hSn
                    refine lv_iload hx hb dX12_readAt_362 (lv_at hl 1 rfl) ?_
                    refine lv_iload_n hx hb dX12_readAt_364 rfl (lv_at hl 5 rfl) ?_
                    refine lv_iconst (v := 2) hx hb dX12_readAt_365 (by decide) ?_
                    refine lv_iadd hx hb dX12_readAt_366 ?_
                    refine lv_topi (fun x_15 ex_15 => ?_)
                    have tx_15 : x_15.toInt = q.toInt + 2 := v_add ex_15 (by show -2147483648 ≤ q.toInt + 2; omega) (by show q.toInt + 2 < 2147483648; omega)
                    refine lv_icmp_le (tgt := 407) hx hb dX12_readAt_367 (by decide) (fun c_16 => ?_) (fun c_16 => ?_)
                    · have tc_16 : qq.toInt ≤ x_15.toInt := v_le c_16
                      refine lv_iconst (v := 0) hx hb dX12_readAt_407 (by decide) ?_
                      refine lv_istore (lv' := [(6, .int 0), (5, .int x), (4, .int qq), (3, .int x_1), (0, .ref oM), (1, .int cd), (2, .int q)]) hx hb dX12_readAt_408 hl (by decide) rfl (fun ls hl => ?_)
                      refine lv_iload hx hb dX12_readAt_410 (lv_at hl 0 rfl) ?_
                      refine lv_if_eq (tgt := 424) hx hb dX12_readAt_412 (by decide) (fun c_17 => ?_) (fun c_17 => absurd c_17 (by decide))
                      refine lv_iconst (v := 0) hx hb dX12_readAt_424 (by decide) ?_
                      have hP9 := hP.sub (ws' := [(oM, .inr (12, [.ref mT, .int zt, .ref mS, .ref mX, .int zp, .int zf, .ref mL, .ref mB, .ref mD, .ref m1, .ref m2, .int zh, .ref mR, .int zr, .ref x1, .ref x2, .ref x3, .int zc, .ref mH, .int zy, .int za, .int zb, .int zs, .int zq, .int zw, .int ze, .ref mY, .int zn, .ref mE, .int zm, .int zl, .ref mW, .int zk, .ref mO, .int x, .ref y1, .ref y2, .ref y3, .ref y4, .ref mZ])), (mY, .inl (cI, 2600, .inl eY)), (mL, .inl (cI, 512, .inl eL))]) [1, 2, 0] rfl
                      have hD9 := hD.sub (ws' := [(oM, .inr (12, [.ref mT, .int zt, .ref mS, .ref mX, .int zp, .int zf, .ref mL, .ref mB, .ref mD, .ref m1, .ref m2, .int zh, .ref mR, .int zr, .ref x1, .ref x2, .ref x3, .int zc, .ref mH, .int zy, .int za, .int zb, .int zs, .int zq, .int zw, .int ze, .ref mY, .int zn, .ref mE, .int zm, .int zl, .ref mW, .int zk, .ref mO, .int x, .ref y1, .ref y2, .ref y3, .ref y4, .ref mZ])), (mY, .inl (cI, 2600, .inl eY)), (mL, .inl (cI, 512, .inl eL))]) [1, 2, 0] (by decide +kernel) rfl
                      rw [hQQ]
                      exact W.iret (v := 0) hx hb hr (fun t ht hW => ⟨⟨0, 0, rfl, rfl, ⟨x, by rw [ht]; exact hP9, hD9, by decide, by show 0 = 0 ∨ (0 ≤ x.toInt ∧ x.toInt ≤ 65535); omega, Or.inr ⟨rfl, Dec_no (by rw [← ex_1]; first | (unfold alF; (repeat (first | rw [if_pos (by omega)] | rw [if_neg (by omega)])); done) | (exfalso; omega)) (fun e9 l9 x9 h9 => by unfold DMa DM at h9; omega) (fun _ => by first | exact NJ_no (B := bo eY zn.toInt q.toNatClampNeg) hnj hb13 (by omega) | exact NJ_no0 (B := bo eY zn.toInt q.toNatClampNeg) hnj (by omega) (by omega))⟩⟩⟩, hS.F ht⟩) hS.2.2 dX12_readAt_425
                    · have tc_16 : x_15.toInt < qq.toInt := v_nle c_16
                      refine lv_aload_n hx hb dX12_readAt_370 rfl (lv_at hl 3 rfl) ?_
                      refine lv_iload hx hb dX12_readAt_371 (lv_at hl 1 rfl) ?_
                      have hPc := hP.sub (ws' := [(oM, .inr (12, [.ref mT, .int zt, .ref mS, .ref mX, .int zp, .int zf, .ref mL, .ref mB, .ref mD, .ref m1, .ref m2, .int zh, .ref mR, .int zr, .ref x1, .ref x2, .ref x3, .int zc, .ref mH, .int zy, .int za, .int zb, .int zs, .int zq, .int zw, .int ze, .ref mY, .int zn, .ref mE, .int zm, .int zl, .ref mW, .int zk, .ref mO, .int x, .ref y1, .ref y2, .ref y3, .ref y4, .ref mZ])), (mY, .inl (cI, 2600, .inl eY))]) [1, 2] rfl
                      have hDc := hD.sub (ws' := [(oM, .inr (12, [.ref mT, .int zt, .ref mS, .ref mX, .int zp, .int zf, .ref mL, .ref mB, .ref mD, .ref m1, .ref m2, .int zh, .ref mR, .int zr, .ref x1, .ref x2, .ref x3, .int zc, .ref mH, .int zy, .int za, .int zb, .int zs, .int zq, .int zw, .int ze, .ref mY, .int zn, .ref mE, .int zm, .int zl, .ref mW, .int zk, .ref mO, .int x, .ref y1, .ref y2, .ref y3, .ref y4, .ref mZ])), (mY, .inl (cI, 2600, .inl eY))]) [1, 2] (by decide +kernel) rfl
                      have hFc := va_free (wc := [(oM, .inr (12, [.ref mT, .int zt, .ref mS, .ref mX, .int zp, .int zf, .ref mL, .ref mB, .ref mD, .ref m1, .ref m2, .int zh, .ref mR, .int zr, .ref x1, .ref x2, .ref x3, .int zc, .ref mH, .int zy, .int za, .int zb, .int zs, .int zq, .int zw, .int ze, .ref mY, .int zn, .ref mE, .int zm, .int zl, .ref mW, .int zk, .ref mO, .int x, .ref y1, .ref y2, .ref y3, .ref y4, .ref mZ])), (mY, .inl (cI, 2600, .inl eY))]) hD hS hA [1, 2] rfl
                      refine va_calli (va_runV (As := [.int qq]) (rest := []) ⟨hx, hb, hml, hown, hts⟩ (f_X12_byteAt l dC dI cI cS H.size oM mT mS mX mL mB mD m1 m2 mR x1 x2 x3 mH mY mE mW mO y1 y2 y3 y4 mZ zt zp zf zh zr zc zy za zb zs zq zw ze zn zm zl zk x eY qq (g_zt) (g_zp) (g_zf) (g_zh) (g_zr) (g_zc) (g_zy) (g_za) (g_zb) (g_zs) (g_zq) (g_zn) (g_zm) (g_zk) (g_eY) (by omega)) (cwV 1 hts gX12_readAt_X12_byteAt rfl rfl rfl (by decide +kernel) ⟨Nat.le_of_ble_eq_true rfl, Nat.le_of_ble_eq_true rfl⟩) ⟨fun a U g mk q => by obtain ⟨q0, q1, qP, qK, qD⟩ := q; exact ⟨q0, q1, qP, va_K.moved (u := U) (U := U.calling g mk a) (Vm.Alike.refl U.vm) qK, qD⟩, va_recv hK hPc (ci := 12) (q0 := 0) rfl rfl, fun U hU hW => ⟨rfl, by rw [hU], by rw [hU]; exact hPc, va_K.moved hW.alike hK, hDc.weaken (fun _ _ _ _ => trivial)⟩⟩ rfl rfl hl.1 rfl (lv_room (Nat.le_of_ble_eq_true rfl)) dX12_readAt_373 ⟨Nat.le_of_ble_eq_true rfl, Nat.le_of_ble_eq_true rfl⟩) hS (fun q _ h => hFc q h) hFc (fun r_18 u t H1 locs ht hvm hw hB hz1 hk1 hSn => ?_)
                      subst hw
                      obtain ⟨hP1, hD1, hf18_0, hf18_1, hf18_2⟩ := hB
                      rw [ht] at hP1
                      obtain ⟨hPn, hDn⟩ := va_join (wr := [(mL, .inl (cI, 512, .inl eL))]) (w1 := [(oM, .inr (12, [.ref mT, .int zt, .ref mS, .ref mX, .int zp, .int zf, .ref mL, .ref mB, .ref mD, .ref m1, .ref m2, .int zh, .ref mR, .int zr, .ref x1, .ref x2, .ref x3, .int zc, .ref mH, .int zy, .int za, .int zb, .int zs, .int zq, .int zw, .int ze, .ref mY, .int zn, .ref mE, .int zm, .int zl, .ref mW, .int zk, .ref mO, .int x, .ref y1, .ref y2, .ref y3, .ref y4, .ref mZ])), (mY, .inl (cI, 2600, .inl eY))]) hP hD [1, 2] [0] rfl rfl (by decide +kernel) (by decide +kernel) hk1 hFc hP1 hD1
                      clear hP hD hS hPc hDc hFc hk1 hz1 hvm ht hP1 hD1
                      generalize H1 = H at hPn hSn ⊢
                      have hP : va_P (dC, dI) vwCl [(mL, .inl (cI, 512, .inl eL)), (oM, .inr (12, [.ref mT, .int zt, .ref mS, .ref mX, .int zp, .int zf, .ref mL, .ref mB, .ref mD, .ref m1, .ref m2, .int zh, .ref mR, .int zr, .ref x1, .ref x2, .ref x3, .int zc, .ref mH, .int zy, .int za, .int zb, .int zs, .int zq, .int zw, .int ze, .ref mY, .int zn, .ref mE, .int zm, .int zl, .ref mW, .int zk, .ref mO, .int x, .ref y1, .ref y2, .ref y3, .ref y4, .ref mZ])), (mY, .inl (cI, 2600, .inl eY))] H := hPn
                      have hD : va_D A [(mL, .inl (cI, 512, .inl eL)), (oM, .inr (12, [.ref mT, .int zt, .ref mS, .ref mX, .int zp, .int zf, .ref mL, .ref mB, .ref mD, .ref m1, .ref m2, .int zh, .ref mR, .int zr, .ref x1, .ref x2, .ref x3, .int zc, .ref mH, .int zy, .int za, .int zb, .int zs, .int zq, .int zw, .int ze, .ref mY, .int zn, .ref mE, .int zm, .int zl, .ref mW, .int zk, .ref mO, .int x, .ref y1, .ref y2, .ref y3, .ref y4, .ref mZ])), (mY, .inl (cI, 2600, .inl eY))] := hDn
                      have hS := hSn
                      clear hPn hDn hSn
                      have hb18 : r_18.toInt = bo eY zn.toInt q.toNatClampNeg (2 + (qq.toInt - q.toInt - 2).toNat) := bt_ix (k := q.toNatClampNeg + (2 + (qq.toInt - q.toInt - 2).toNat)) hf18_2 (by omega)
                      refine lv_bipush (v := 59) hx hb dX12_readAt_376 (by decide) ?_
                      refine lv_icmp_ne (tgt := 407) hx hb dX12_readAt_378 (by decide) (fun c_19 => ?_) (fun c_19 => ?_)
                      · have tc_19 : ¬ r_18.toInt = 59 := v_ne c_19
                        refine lv_iconst (v := 0) hx hb dX12_readAt_407 (by decide) ?_
                        refine lv_istore (lv' := [(6, .int 0), (5, .int x), (4, .int qq), (3, .int x_1), (0, .ref oM), (1, .int cd), (2, .int q)]) hx hb dX12_readAt_408 hl (by decide) rfl (fun ls hl => ?_)
                        refine lv_iload hx hb dX12_readAt_410 (lv_at hl 0 rfl) ?_
                        refine lv_if_eq (tgt := 424) hx hb dX12_readAt_412 (by decide) (fun c_20 => ?_) (fun c_20 => absurd c_20 (by decide))
                        refine lv_iconst (v := 0) hx hb dX12_readAt_424 (by decide) ?_
                        have hP9 := hP.sub (ws' := [(oM, .inr (12, [.ref mT, .int zt, .ref mS, .ref mX, .int zp, .int zf, .ref mL, .ref mB, .ref mD, .ref m1, .ref m2, .int zh, .ref mR, .int zr, .ref x1, .ref x2, .ref x3, .int zc, .ref mH, .int zy, .int za, .int zb, .int zs, .int zq, .int zw, .int ze, .ref mY, .int zn, .ref mE, .int zm, .int zl, .ref mW, .int zk, .ref mO, .int x, .ref y1, .ref y2, .ref y3, .ref y4, .ref mZ])), (mY, .inl (cI, 2600, .inl eY)), (mL, .inl (cI, 512, .inl eL))]) [1, 2, 0] rfl
                        have hD9 := hD.sub (ws' := [(oM, .inr (12, [.ref mT, .int zt, .ref mS, .ref mX, .int zp, .int zf, .ref mL, .ref mB, .ref mD, .ref m1, .ref m2, .int zh, .ref mR, .int zr, .ref x1, .ref x2, .ref x3, .int zc, .ref mH, .int zy, .int za, .int zb, .int zs, .int zq, .int zw, .int ze, .ref mY, .int zn, .ref mE, .int zm, .int zl, .ref mW, .int zk, .ref mO, .int x, .ref y1, .ref y2, .ref y3, .ref y4, .ref mZ])), (mY, .inl (cI, 2600, .inl eY)), (mL, .inl (cI, 512, .inl eL))]) [1, 2, 0] (by decide +kernel) rfl
                        rw [hQQ]
                        exact W.iret (v := 0) hx hb hr (fun t ht hW => ⟨⟨0, 0, rfl, rfl, ⟨x, by rw [ht]; exact hP9, hD9, by decide, by show 0 = 0 ∨ (0 ≤ x.toInt ∧ x.toInt ≤ 65535); omega, Or.inr ⟨rfl, Dec_no (by rw [← ex_1]; first | (unfold alF; (repeat (first | rw [if_pos (by omega)] | rw [if_neg (by omega)])); done) | (exfalso; omega)) (fun e9 l9 x9 h9 => by unfold DMa DM at h9; omega) (fun _ => by first | exact NJ_no (B := bo eY zn.toInt q.toNatClampNeg) hnj hb18 (by omega) | exact NJ_no0 (B := bo eY zn.toInt q.toNatClampNeg) hnj (by omega) (by omega))⟩⟩⟩, hS.F ht⟩) hS.2.2 dX12_readAt_425
                      · have tc_19 : r_18.toInt = 59 := v_eq c_19
                        refine lv_iload hx hb dX12_readAt_381 (lv_at hl 0 rfl) ?_
                        have hPc := hP.sub (ws' := []) [] rfl
                        have hDc := hD.sub (ws' := []) [] (by decide +kernel) rfl
                        have hFc := va_free (wc := []) hD hS hA [] rfl
                        refine va_calli (va_runS (As := [.int x]) (rest := []) ⟨hx, hb, hml, hown, hts⟩ (m_X12_isLetter l dC dI cI cS H.size x ) (va_cwS 1 hts gX12_readAt_X12_isLetter rfl rfl rfl (by decide +kernel) ⟨Nat.le_of_ble_eq_true rfl, Nat.le_of_ble_eq_true rfl⟩) ⟨fun a U g mk q => by obtain ⟨q0, q1, qP, qK, qD⟩ := q; exact ⟨q0, q1, qP, va_K.moved (u := U) (U := U.calling g mk a) (Vm.Alike.refl U.vm) qK, qD⟩, fun U hU hW => ⟨rfl, by rw [hU], by rw [hU]; exact hPc, va_K.moved hW.alike hK, hDc.weaken (fun _ _ _ _ => trivial)⟩⟩ rfl rfl hl.1 rfl (lv_room (Nat.le_of_ble_eq_true rfl)) dX12_readAt_383 ⟨Nat.le_of_ble_eq_true rfl, Nat.le_of_ble_eq_true rfl⟩) hS (fun q _ h => hFc q h) hFc (fun r_21 u t H1 locs ht hvm hw hB hz1 hk1 hSn => ?_)
                        subst hw
                        obtain ⟨hP1, hD1, hf21_0, hf21_1⟩ := hB
                        rw [ht] at hP1
                        obtain ⟨hPn, hDn⟩ := va_join (wr := [(mL, .inl (cI, 512, .inl eL)), (oM, .inr (12, [.ref mT, .int zt, .ref mS, .ref mX, .int zp, .int zf, .ref mL, .ref mB, .ref mD, .ref m1, .ref m2, .int zh, .ref mR, .int zr, .ref x1, .ref x2, .ref x3, .int zc, .ref mH, .int zy, .int za, .int zb, .int zs, .int zq, .int zw, .int ze, .ref mY, .int zn, .ref mE, .int zm, .int zl, .ref mW, .int zk, .ref mO, .int x, .ref y1, .ref y2, .ref y3, .ref y4, .ref mZ])), (mY, .inl (cI, 2600, .inl eY))]) (w1 := []) hP hD [] [0, 1, 2] rfl rfl (by decide +kernel) (by decide +kernel) hk1 hFc hP1 hD1
                        clear hP hD hS hPc hDc hFc hk1 hz1 hvm ht hP1 hD1
                        generalize H1 = H at hPn hSn ⊢
                        have hP : va_P (dC, dI) vwCl [(mL, .inl (cI, 512, .inl eL)), (oM, .inr (12, [.ref mT, .int zt, .ref mS, .ref mX, .int zp, .int zf, .ref mL, .ref mB, .ref mD, .ref m1, .ref m2, .int zh, .ref mR, .int zr, .ref x1, .ref x2, .ref x3, .int zc, .ref mH, .int zy, .int za, .int zb, .int zs, .int zq, .int zw, .int ze, .ref mY, .int zn, .ref mE, .int zm, .int zl, .ref mW, .int zk, .ref mO, .int x, .ref y1, .ref y2, .ref y3, .ref y4, .ref mZ])), (mY, .inl (cI, 2600, .inl eY))] H := hPn
                        have hD : va_D A [(mL, .inl (cI, 512, .inl eL)), (oM, .inr (12, [.ref mT, .int zt, .ref mS, .ref mX, .int zp, .int zf, .ref mL, .ref mB, .ref mD, .ref m1, .ref m2, .int zh, .ref mR, .int zr, .ref x1, .ref x2, .ref x3, .int zc, .ref mH, .int zy, .int za, .int zb, .int zs, .int zq, .int zw, .int ze, .ref mY, .int zn, .ref mE, .int zm, .int zl, .ref mW, .int zk, .ref mO, .int x, .ref y1, .ref y2, .ref y3, .ref y4, .ref mZ])), (mY, .inl (cI, 2600, .inl eY))] := hDn
                        have hS := hSn
                        clear hPn hDn hSn
                        refine lv_if_eq (tgt := 407) hx hb dX12_readAt_386 (by decide) (fun c_22 => ?_) (fun c_22 => ?_)
                        · have tc_22 : r_21.toInt = 0 := v_eq c_22
                          refine lv_iconst (v := 0) hx hb dX12_readAt_407 (by decide) ?_
                          refine lv_istore (lv' := [(6, .int 0), (5, .int x), (4, .int qq), (3, .int x_1), (0, .ref oM), (1, .int cd), (2, .int q)]) hx hb dX12_readAt_408 hl (by decide) rfl (fun ls hl => ?_)
                          refine lv_iload hx hb dX12_readAt_410 (lv_at hl 0 rfl) ?_
                          refine lv_if_eq (tgt := 424) hx hb dX12_readAt_412 (by decide) (fun c_23 => ?_) (fun c_23 => absurd c_23 (by decide))
                          refine lv_iconst (v := 0) hx hb dX12_readAt_424 (by decide) ?_
                          have hP9 := hP.sub (ws' := [(oM, .inr (12, [.ref mT, .int zt, .ref mS, .ref mX, .int zp, .int zf, .ref mL, .ref mB, .ref mD, .ref m1, .ref m2, .int zh, .ref mR, .int zr, .ref x1, .ref x2, .ref x3, .int zc, .ref mH, .int zy, .int za, .int zb, .int zs, .int zq, .int zw, .int ze, .ref mY, .int zn, .ref mE, .int zm, .int zl, .ref mW, .int zk, .ref mO, .int x, .ref y1, .ref y2, .ref y3, .ref y4, .ref mZ])), (mY, .inl (cI, 2600, .inl eY)), (mL, .inl (cI, 512, .inl eL))]) [1, 2, 0] rfl
                          have hD9 := hD.sub (ws' := [(oM, .inr (12, [.ref mT, .int zt, .ref mS, .ref mX, .int zp, .int zf, .ref mL, .ref mB, .ref mD, .ref m1, .ref m2, .int zh, .ref mR, .int zr, .ref x1, .ref x2, .ref x3, .int zc, .ref mH, .int zy, .int za, .int zb, .int zs, .int zq, .int zw, .int ze, .ref mY, .int zn, .ref mE, .int zm, .int zl, .ref mW, .int zk, .ref mO, .int x, .ref y1, .ref y2, .ref y3, .ref y4, .ref mZ])), (mY, .inl (cI, 2600, .inl eY)), (mL, .inl (cI, 512, .inl eL))]) [1, 2, 0] (by decide +kernel) rfl
                          rw [hQQ]
                          exact W.iret (v := 0) hx hb hr (fun t ht hW => ⟨⟨0, 0, rfl, rfl, ⟨x, by rw [ht]; exact hP9, hD9, by decide, by show 0 = 0 ∨ (0 ≤ x.toInt ∧ x.toInt ≤ 65535); omega, Or.inr ⟨rfl, Dec_no (by rw [← ex_1]; first | (unfold alF; (repeat (first | rw [if_pos (by omega)] | rw [if_neg (by omega)])); done) | (exfalso; omega)) (fun e9 l9 x9 h9 => by unfold DMa DM at h9; omega) (fun _ => by first | exact NJ_no (B := bo eY zn.toInt q.toNatClampNeg) hnj hb18 (by omega) | exact NJ_no0 (B := bo eY zn.toInt q.toNatClampNeg) hnj (by omega) (by omega))⟩⟩⟩, hS.F ht⟩) hS.2.2 dX12_readAt_425
                        · have tc_22 : ¬ r_21.toInt = 0 := v_ne c_22
                          refine lv_iload hx hb dX12_readAt_389 (lv_at hl 0 rfl) ?_
                          refine lv_bipush (v := 38) hx hb dX12_readAt_391 (by decide) ?_
                          refine lv_icmp_eq (tgt := 403) hx hb dX12_readAt_393 (by decide) (fun c_24 => ?_) (fun c_24 => ?_)
                          · have tc_24 : x.toInt = 38 := v_eq c_24
                            refine lv_iconst (v := 1) hx hb dX12_readAt_403 (by decide) ?_
                            refine lv_goto (tgt := 408) hx hb dX12_readAt_404 (by decide) ?_
                            refine lv_istore (lv' := [(6, .int 1), (5, .int x), (4, .int qq), (3, .int x_1), (0, .ref oM), (1, .int cd), (2, .int q)]) hx hb dX12_readAt_408 hl (by decide) rfl (fun ls hl => ?_)
                            refine lv_iload hx hb dX12_readAt_410 (lv_at hl 0 rfl) ?_
                            refine lv_if_eq (tgt := 424) hx hb dX12_readAt_412 (by decide) (fun c_25 => absurd c_25 (by decide)) (fun c_25 => ?_)
                            refine lv_iload hx hb dX12_readAt_415 (lv_at hl 2 rfl) ?_
                            refine lv_iload_n hx hb dX12_readAt_417 rfl (lv_at hl 6 rfl) ?_
                            refine lv_isub hx hb dX12_readAt_418 ?_
                            refine lv_topi (fun x_26 ex_26 => ?_)
                            have tx_26 : x_26.toInt = qq.toInt - q.toInt := v_sub ex_26 (by show -2147483648 ≤ qq.toInt - q.toInt; omega) (by show qq.toInt - q.toInt < 2147483648; omega)
                            refine lv_iconst (v := 1) hx hb dX12_readAt_419 (by decide) ?_
                            refine lv_iadd hx hb dX12_readAt_420 ?_
                            refine lv_topi (fun x_27 ex_27 => ?_)
                            have tx_27 : x_27.toInt = x_26.toInt + 1 := v_add ex_27 (by show -2147483648 ≤ x_26.toInt + 1; omega) (by show x_26.toInt + 1 < 2147483648; omega)
                            refine lv_goto (tgt := 425) hx hb dX12_readAt_421 (by decide) ?_
                            have hP9 := hP.sub (ws' := [(oM, .inr (12, [.ref mT, .int zt, .ref mS, .ref mX, .int zp, .int zf, .ref mL, .ref mB, .ref mD, .ref m1, .ref m2, .int zh, .ref mR, .int zr, .ref x1, .ref x2, .ref x3, .int zc, .ref mH, .int zy, .int za, .int zb, .int zs, .int zq, .int zw, .int ze, .ref mY, .int zn, .ref mE, .int zm, .int zl, .ref mW, .int zk, .ref mO, .int x, .ref y1, .ref y2, .ref y3, .ref y4, .ref mZ])), (mY, .inl (cI, 2600, .inl eY)), (mL, .inl (cI, 512, .inl eL))]) [1, 2, 0] rfl
                            have hD9 := hD.sub (ws' := [(oM, .inr (12, [.ref mT, .int zt, .ref mS, .ref mX, .int zp, .int zf, .ref mL, .ref mB, .ref mD, .ref m1, .ref m2, .int zh, .ref mR, .int zr, .ref x1, .ref x2, .ref x3, .int zc, .ref mH, .int zy, .int za, .int zb, .int zs, .int zq, .int zw, .int ze, .ref mY, .int zn, .ref mE, .int zm, .int zl, .ref mW, .int zk, .ref mO, .int x, .ref y1, .ref y2, .ref y3, .ref y4, .ref mZ])), (mY, .inl (cI, 2600, .inl eY)), (mL, .inl (cI, 512, .inl eL))]) [1, 2, 0] (by decide +kernel) rfl
                            rw [hQQ]
                            exact W.iret (v := x_27) hx hb hr (fun t ht hW => ⟨⟨x_27, x_27, rfl, rfl, ⟨x, by rw [ht]; exact hP9, hD9, by omega, by show x_27.toInt = 0 ∨ (0 ≤ x.toInt ∧ x.toInt ≤ 65535); omega, Or.inl ⟨(qq.toInt - q.toInt - 2).toNat + 3, by omega, by omega, Or.inr (Or.inr ⟨by omega, NJ_of (B := bo eY zn.toInt q.toNatClampNeg) hnj (by rw [← hb18]; omega) (by show bt eY zn.toInt q.toNatClampNeg = 38; omega) (by show bt eY zn.toInt (q.toNatClampNeg + 1) = 35; omega) (by omega) (by omega) (by omega) (by omega)⟩)⟩⟩⟩, hS.F ht⟩) hS.2.2 dX12_readAt_425
                          · have tc_24 : ¬ x.toInt = 38 := v_ne c_24
                            refine lv_iload hx hb dX12_readAt_396 (lv_at hl 0 rfl) ?_
                            refine lv_bipush (v := 127) hx hb dX12_readAt_398 (by decide) ?_
                            refine lv_icmp_le (tgt := 407) hx hb dX12_readAt_400 (by decide) (fun c_28 => ?_) (fun c_28 => ?_)
                            · have tc_28 : x.toInt ≤ 127 := v_le c_28
                              refine lv_iconst (v := 0) hx hb dX12_readAt_407 (by decide) ?_
                              refine lv_istore (lv' := [(6, .int 0), (5, .int x), (4, .int qq), (3, .int x_1), (0, .ref oM), (1, .int cd), (2, .int q)]) hx hb dX12_readAt_408 hl (by decide) rfl (fun ls hl => ?_)
                              refine lv_iload hx hb dX12_readAt_410 (lv_at hl 0 rfl) ?_
                              refine lv_if_eq (tgt := 424) hx hb dX12_readAt_412 (by decide) (fun c_29 => ?_) (fun c_29 => absurd c_29 (by decide))
                              refine lv_iconst (v := 0) hx hb dX12_readAt_424 (by decide) ?_
                              have hP9 := hP.sub (ws' := [(oM, .inr (12, [.ref mT, .int zt, .ref mS, .ref mX, .int zp, .int zf, .ref mL, .ref mB, .ref mD, .ref m1, .ref m2, .int zh, .ref mR, .int zr, .ref x1, .ref x2, .ref x3, .int zc, .ref mH, .int zy, .int za, .int zb, .int zs, .int zq, .int zw, .int ze, .ref mY, .int zn, .ref mE, .int zm, .int zl, .ref mW, .int zk, .ref mO, .int x, .ref y1, .ref y2, .ref y3, .ref y4, .ref mZ])), (mY, .inl (cI, 2600, .inl eY)), (mL, .inl (cI, 512, .inl eL))]) [1, 2, 0] rfl
                              have hD9 := hD.sub (ws' := [(oM, .inr (12, [.ref mT, .int zt, .ref mS, .ref mX, .int zp, .int zf, .ref mL, .ref mB, .ref mD, .ref m1, .ref m2, .int zh, .ref mR, .int zr, .ref x1, .ref x2, .ref x3, .int zc, .ref mH, .int zy, .int za, .int zb, .int zs, .int zq, .int zw, .int ze, .ref mY, .int zn, .ref mE, .int zm, .int zl, .ref mW, .int zk, .ref mO, .int x, .ref y1, .ref y2, .ref y3, .ref y4, .ref mZ])), (mY, .inl (cI, 2600, .inl eY)), (mL, .inl (cI, 512, .inl eL))]) [1, 2, 0] (by decide +kernel) rfl
                              rw [hQQ]
                              exact W.iret (v := 0) hx hb hr (fun t ht hW => ⟨⟨0, 0, rfl, rfl, ⟨x, by rw [ht]; exact hP9, hD9, by decide, by show 0 = 0 ∨ (0 ≤ x.toInt ∧ x.toInt ≤ 65535); omega, Or.inr ⟨rfl, Dec_no (by rw [← ex_1]; first | (unfold alF; (repeat (first | rw [if_pos (by omega)] | rw [if_neg (by omega)])); done) | (exfalso; omega)) (fun e9 l9 x9 h9 => by unfold DMa DM at h9; omega) (fun _ => by first | exact NJ_no (B := bo eY zn.toInt q.toNatClampNeg) hnj hb18 (by omega) | exact NJ_no0 (B := bo eY zn.toInt q.toNatClampNeg) hnj (by omega) (by omega))⟩⟩⟩, hS.F ht⟩) hS.2.2 dX12_readAt_425
                            · have tc_28 : 127 < x.toInt := v_nle c_28
                              refine lv_iconst (v := 1) hx hb dX12_readAt_403 (by decide) ?_
                              refine lv_goto (tgt := 408) hx hb dX12_readAt_404 (by decide) ?_
                              refine lv_istore (lv' := [(6, .int 1), (5, .int x), (4, .int qq), (3, .int x_1), (0, .ref oM), (1, .int cd), (2, .int q)]) hx hb dX12_readAt_408 hl (by decide) rfl (fun ls hl => ?_)
                              refine lv_iload hx hb dX12_readAt_410 (lv_at hl 0 rfl) ?_
                              refine lv_if_eq (tgt := 424) hx hb dX12_readAt_412 (by decide) (fun c_30 => absurd c_30 (by decide)) (fun c_30 => ?_)
                              refine lv_iload hx hb dX12_readAt_415 (lv_at hl 2 rfl) ?_
                              refine lv_iload_n hx hb dX12_readAt_417 rfl (lv_at hl 6 rfl) ?_
                              refine lv_isub hx hb dX12_readAt_418 ?_
                              refine lv_topi (fun x_31 ex_31 => ?_)
                              have tx_31 : x_31.toInt = qq.toInt - q.toInt := v_sub ex_31 (by show -2147483648 ≤ qq.toInt - q.toInt; omega) (by show qq.toInt - q.toInt < 2147483648; omega)
                              refine lv_iconst (v := 1) hx hb dX12_readAt_419 (by decide) ?_
                              refine lv_iadd hx hb dX12_readAt_420 ?_
                              refine lv_topi (fun x_32 ex_32 => ?_)
                              have tx_32 : x_32.toInt = x_31.toInt + 1 := v_add ex_32 (by show -2147483648 ≤ x_31.toInt + 1; omega) (by show x_31.toInt + 1 < 2147483648; omega)
                              refine lv_goto (tgt := 425) hx hb dX12_readAt_421 (by decide) ?_
                              have hP9 := hP.sub (ws' := [(oM, .inr (12, [.ref mT, .int zt, .ref mS, .ref mX, .int zp, .int zf, .ref mL, .ref mB, .ref mD, .ref m1, .ref m2, .int zh, .ref mR, .int zr, .ref x1, .ref x2, .ref x3, .int zc, .ref mH, .int zy, .int za, .int zb, .int zs, .int zq, .int zw, .int ze, .ref mY, .int zn, .ref mE, .int zm, .int zl, .ref mW, .int zk, .ref mO, .int x, .ref y1, .ref y2, .ref y3, .ref y4, .ref mZ])), (mY, .inl (cI, 2600, .inl eY)), (mL, .inl (cI, 512, .inl eL))]) [1, 2, 0] rfl
                              have hD9 := hD.sub (ws' := [(oM, .inr (12, [.ref mT, .int zt, .ref mS, .ref mX, .int zp, .int zf, .ref mL, .ref mB, .ref mD, .ref m1, .ref m2, .int zh, .ref mR, .int zr, .ref x1, .ref x2, .ref x3, .int zc, .ref mH, .int zy, .int za, .int zb, .int zs, .int zq, .int zw, .int ze, .ref mY, .int zn, .ref mE, .int zm, .int zl, .ref mW, .int zk, .ref mO, .int x, .ref y1, .ref y2, .ref y3, .ref y4, .ref mZ])), (mY, .inl (cI, 2600, .inl eY)), (mL, .inl (cI, 512, .inl eL))]) [1, 2, 0] (by decide +kernel) rfl
                              rw [hQQ]
                              exact W.iret (v := x_32) hx hb hr (fun t ht hW => ⟨⟨x_32, x_32, rfl, rfl, ⟨x, by rw [ht]; exact hP9, hD9, by omega, by show x_32.toInt = 0 ∨ (0 ≤ x.toInt ∧ x.toInt ≤ 65535); omega, Or.inl ⟨(qq.toInt - q.toInt - 2).toNat + 3, by omega, by omega, Or.inr (Or.inr ⟨by omega, NJ_of (B := bo eY zn.toInt q.toNatClampNeg) hnj (by rw [← hb18]; omega) (by show bt eY zn.toInt q.toNatClampNeg = 38; omega) (by show bt eY zn.toInt (q.toNatClampNeg + 1) = 35; omega) (by omega) (by omega) (by omega) (by omega)⟩)⟩⟩⟩, hS.F ht⟩) hS.2.2 dX12_readAt_425
                  · have tc_14 : 48 ≤ r_13.toInt := v_nlt c_14
                    refine lv_aload_n hx hb dX12_readAt_297 rfl (lv_at hl 3 rfl) ?_
                    refine lv_iload hx hb dX12_readAt_298 (lv_at hl 1 rfl) ?_
                    have hPc := hP.sub (ws' := [(oM, .inr (12, [.ref mT, .int zt, .ref mS, .ref mX, .int zp, .int zf, .ref mL, .ref mB, .ref mD, .ref m1, .ref m2, .int zh, .ref mR, .int zr, .ref x1, .ref x2, .ref x3, .int zc, .ref mH, .int zy, .int za, .int zb, .int zs, .int zq, .int zw, .int ze, .ref mY, .int zn, .ref mE, .int zm, .int zl, .ref mW, .int zk, .ref mO, .int x_1, .ref y1, .ref y2, .ref y3, .ref y4, .ref mZ])), (mY, .inl (cI, 2600, .inl eY))]) [1, 2] rfl
                    have hDc := hD.sub (ws' := [(oM, .inr (12, [.ref mT, .int zt, .ref mS, .ref mX, .int zp, .int zf, .ref mL, .ref mB, .ref mD, .ref m1, .ref m2, .int zh, .ref mR, .int zr, .ref x1, .ref x2, .ref x3, .int zc, .ref mH, .int zy, .int za, .int zb, .int zs, .int zq, .int zw, .int ze, .ref mY, .int zn, .ref mE, .int zm, .int zl, .ref mW, .int zk, .ref mO, .int x_1, .ref y1, .ref y2, .ref y3, .ref y4, .ref mZ])), (mY, .inl (cI, 2600, .inl eY))]) [1, 2] (by decide +kernel) rfl
                    have hFc := va_free (wc := [(oM, .inr (12, [.ref mT, .int zt, .ref mS, .ref mX, .int zp, .int zf, .ref mL, .ref mB, .ref mD, .ref m1, .ref m2, .int zh, .ref mR, .int zr, .ref x1, .ref x2, .ref x3, .int zc, .ref mH, .int zy, .int za, .int zb, .int zs, .int zq, .int zw, .int ze, .ref mY, .int zn, .ref mE, .int zm, .int zl, .ref mW, .int zk, .ref mO, .int x_1, .ref y1, .ref y2, .ref y3, .ref y4, .ref mZ])), (mY, .inl (cI, 2600, .inl eY))]) hD hS hA [1, 2] rfl
                    refine va_calli (va_runV (As := [.int qq]) (rest := []) ⟨hx, hb, hml, hown, hts⟩ (f_X12_byteAt l dC dI cI cS H.size oM mT mS mX mL mB mD m1 m2 mR x1 x2 x3 mH mY mE mW mO y1 y2 y3 y4 mZ zt zp zf zh zr zc zy za zb zs zq zw ze zn zm zl zk x_1 eY qq (g_zt) (g_zp) (g_zf) (g_zh) (g_zr) (g_zc) (g_zy) (g_za) (g_zb) (g_zs) (g_zq) (g_zn) (g_zm) (g_zk) (g_eY) (by omega)) (cwV 1 hts gX12_readAt_X12_byteAt rfl rfl rfl (by decide +kernel) ⟨Nat.le_of_ble_eq_true rfl, Nat.le_of_ble_eq_true rfl⟩) ⟨fun a U g mk q => by obtain ⟨q0, q1, qP, qK, qD⟩ := q; exact ⟨q0, q1, qP, va_K.moved (u := U) (U := U.calling g mk a) (Vm.Alike.refl U.vm) qK, qD⟩, va_recv hK hPc (ci := 12) (q0 := 0) rfl rfl, fun U hU hW => ⟨rfl, by rw [hU], by rw [hU]; exact hPc, va_K.moved hW.alike hK, hDc.weaken (fun _ _ _ _ => trivial)⟩⟩ rfl rfl hl.1 rfl (lv_room (Nat.le_of_ble_eq_true rfl)) dX12_readAt_300 ⟨Nat.le_of_ble_eq_true rfl, Nat.le_of_ble_eq_true rfl⟩) hS (fun q _ h => hFc q h) hFc (fun r_33 u t H1 locs ht hvm hw hB hz1 hk1 hSn => ?_)
                    subst hw
                    obtain ⟨hP1, hD1, hf33_0, hf33_1, hf33_2⟩ := hB
                    rw [ht] at hP1
                    obtain ⟨hPn, hDn⟩ := va_join (wr := [(mL, .inl (cI, 512, .inl eL))]) (w1 := [(oM, .inr (12, [.ref mT, .int zt, .ref mS, .ref mX, .int zp, .int zf, .ref mL, .ref mB, .ref mD, .ref m1, .ref m2, .int zh, .ref mR, .int zr, .ref x1, .ref x2, .ref x3, .int zc, .ref mH, .int zy, .int za, .int zb, .int zs, .int zq, .int zw, .int ze, .ref mY, .int zn, .ref mE, .int zm, .int zl, .ref mW, .int zk, .ref mO, .int x_1, .ref y1, .ref y2, .ref y3, .ref y4, .ref mZ])), (mY, .inl (cI, 2600, .inl eY))]) hP hD [1, 2] [0] rfl rfl (by decide +kernel) (by decide +kernel) hk1 hFc hP1 hD1
                    clear hP hD hS hPc hDc hFc hk1 hz1 hvm ht hP1 hD1
                    generalize H1 = H at hPn hSn ⊢
                    have hP : va_P (dC, dI) vwCl [(mL, .inl (cI, 512, .inl eL)), (oM, .inr (12, [.ref mT, .int zt, .ref mS, .ref mX, .int zp, .int zf, .ref mL, .ref mB, .ref mD, .ref m1, .ref m2, .int zh, .ref mR, .int zr, .ref x1, .ref x2, .ref x3, .int zc, .ref mH, .int zy, .int za, .int zb, .int zs, .int zq, .int zw, .int ze, .ref mY, .int zn, .ref mE, .int zm, .int zl, .ref mW, .int zk, .ref mO, .int x_1, .ref y1, .ref y2, .ref y3, .ref y4, .ref mZ])), (mY, .inl (cI, 2600, .inl eY))] H := hPn
                    have hD : va_D A [(mL, .inl (cI, 512, .inl eL)), (oM, .inr (12, [.ref mT, .int zt, .ref mS, .ref mX, .int zp, .int zf, .ref mL, .ref mB, .ref mD, .ref m1, .ref m2, .int zh, .ref mR, .int zr, .ref x1, .ref x2, .ref x3, .int zc, .ref mH, .int zy, .int za, .int zb, .int zs, .int zq, .int zw, .int ze, .ref mY, .int zn, .ref mE, .int zm, .int zl, .ref mW, .int zk, .ref mO, .int x_1, .ref y1, .ref y2, .ref y3, .ref y4, .ref mZ])), (mY, .inl (cI, 2600, .inl eY))] := hDn
                    have hS := hSn
                    clear hPn hDn hSn
                    have hb33 : r_33.toInt = bo eY zn.toInt q.toNatClampNeg (2 + (qq.toInt - q.toInt - 2).toNat) := bt_ix (k := q.toNatClampNeg + (2 + (qq.toInt - q.toInt - 2).toNat)) hf33_2 (by omega)
                    refine lv_bipush (v := 57) hx hb dX12_readAt_303 (by decide) ?_
                    refine lv_icmp_gt (tgt := 356) hx hb dX12_readAt_305 (by decide) (fun c_34 => ?_) (fun c_34 => ?_)
                    · have tc_34 : 57 < r_33.toInt := v_lt c_34
                      have hnr9 := NJ_r hnj
                      refine lv_aload_n hx hb dX12_readAt_356 rfl (lv_at hl 3 rfl) ?_
                      refine lv_iload hx hb dX12_readAt_357 (lv_at hl 0 rfl) ?_
                      refine va_put (D := (dC, dI)) (ci := 12) (v := .int x) (ty := .int) (C := RX12) (T := TX12) (N := 40) hx hb hts in_X12 tyX12 tyX12_ok nmX12 hown hK hP hD hS 1 rfl rfl 34 (by decide) (hts (.fieldLink RX12 105 "TextMenderModel" "readLetter" "I") (List.mem_of_getElem? (i := 2) rfl)) (fun _ h9 => h9) rfl (by decide +kernel) rfl rfl (Nat.le_of_ble_eq_true rfl) dX12_readAt_359 (fun H locs hPn hDn hSn => ?_)
                      clear hP hD hS
                      have hP : va_P (dC, dI) vwCl [(mL, .inl (cI, 512, .inl eL)), (oM, .inr (12, [.ref mT, .int zt, .ref mS, .ref mX, .int zp, .int zf, .ref mL, .ref mB, .ref mD, .ref m1, .ref m2, .int zh, .ref mR, .int zr, .ref x1, .ref x2, .ref x3, .int zc, .ref mH, .int zy, .int za, .int zb, .int zs, .int zq, .int zw, .int ze, .ref mY, .int zn, .ref mE, .int zm, .int zl, .ref mW, .int zk, .ref mO, .int x, .ref y1, .ref y2, .ref y3, .ref y4, .ref mZ])), (mY, .inl (cI, 2600, .inl eY))] H := hPn
                      have hD : va_D A [(mL, .inl (cI, 512, .inl eL)), (oM, .inr (12, [.ref mT, .int zt, .ref mS, .ref mX, .int zp, .int zf, .ref mL, .ref mB, .ref mD, .ref m1, .ref m2, .int zh, .ref mR, .int zr, .ref x1, .ref x2, .ref x3, .int zc, .ref mH, .int zy, .int za, .int zb, .int zs, .int zq, .int zw, .int ze, .ref mY, .int zn, .ref mE, .int zm, .int zl, .ref mW, .int zk, .ref mO, .int x, .ref y1, .ref y2, .ref y3, .ref y4, .ref mZ])), (mY, .inl (cI, 2600, .inl eY))] := hDn
                      have hS := hSn
                      clear hPn hDn hSn
                      refine lv_iload hx hb dX12_readAt_362 (lv_at hl 1 rfl) ?_
                      refine lv_iload_n hx hb dX12_readAt_364 rfl (lv_at hl 5 rfl) ?_
                      refine lv_iconst (v := 2) hx hb dX12_readAt_365 (by decide) ?_
                      refine lv_iadd hx hb dX12_readAt_366 ?_
                      refine lv_topi (fun x_35 ex_35 => ?_)
                      have tx_35 : x_35.toInt = q.toInt + 2 := v_add ex_35 (by show -2147483648 ≤ q.toInt + 2; omega) (by show q.toInt + 2 < 2147483648; omega)
                      refine lv_icmp_le (tgt := 407) hx hb dX12_readAt_367 (by decide) (fun c_36 => ?_) (fun c_36 => ?_)
                      · have tc_36 : qq.toInt ≤ x_35.toInt := v_le c_36
                        refine lv_iconst (v := 0) hx hb dX12_readAt_407 (by decide) ?_
                        refine lv_istore (lv' := [(6, .int 0), (5, .int x), (4, .int qq), (3, .int x_1), (0, .ref oM), (1, .int cd), (2, .int q)]) hx hb dX12_readAt_408 hl (by decide) rfl (fun ls hl => ?_)
                        refine lv_iload hx hb dX12_readAt_410 (lv_at hl 0 rfl) ?_
                        refine lv_if_eq (tgt := 424) hx hb dX12_readAt_412 (by decide) (fun c_37 => ?_) (fun c_37 => absurd c_37 (by decide))
                        refine lv_iconst (v := 0) hx hb dX12_readAt_424 (by decide) ?_
                        have hP9 := hP.sub (ws' := [(oM, .inr (12, [.ref mT, .int zt, .ref mS, .ref mX, .int zp, .int zf, .ref mL, .ref mB, .ref mD, .ref m1, .ref m2, .int zh, .ref mR, .int zr, .ref x1, .ref x2, .ref x3, .int zc, .ref mH, .int zy, .int za, .int zb, .int zs, .int zq, .int zw, .int ze, .ref mY, .int zn, .ref mE, .int zm, .int zl, .ref mW, .int zk, .ref mO, .int x, .ref y1, .ref y2, .ref y3, .ref y4, .ref mZ])), (mY, .inl (cI, 2600, .inl eY)), (mL, .inl (cI, 512, .inl eL))]) [1, 2, 0] rfl
                        have hD9 := hD.sub (ws' := [(oM, .inr (12, [.ref mT, .int zt, .ref mS, .ref mX, .int zp, .int zf, .ref mL, .ref mB, .ref mD, .ref m1, .ref m2, .int zh, .ref mR, .int zr, .ref x1, .ref x2, .ref x3, .int zc, .ref mH, .int zy, .int za, .int zb, .int zs, .int zq, .int zw, .int ze, .ref mY, .int zn, .ref mE, .int zm, .int zl, .ref mW, .int zk, .ref mO, .int x, .ref y1, .ref y2, .ref y3, .ref y4, .ref mZ])), (mY, .inl (cI, 2600, .inl eY)), (mL, .inl (cI, 512, .inl eL))]) [1, 2, 0] (by decide +kernel) rfl
                        rw [hQQ]
                        exact W.iret (v := 0) hx hb hr (fun t ht hW => ⟨⟨0, 0, rfl, rfl, ⟨x, by rw [ht]; exact hP9, hD9, by decide, by show 0 = 0 ∨ (0 ≤ x.toInt ∧ x.toInt ≤ 65535); omega, Or.inr ⟨rfl, Dec_no (by rw [← ex_1]; first | (unfold alF; (repeat (first | rw [if_pos (by omega)] | rw [if_neg (by omega)])); done) | (exfalso; omega)) (fun e9 l9 x9 h9 => by unfold DMa DM at h9; omega) (fun _ => by first | exact NJ_no (B := bo eY zn.toInt q.toNatClampNeg) hnj hb33 (by omega) | exact NJ_no0 (B := bo eY zn.toInt q.toNatClampNeg) hnj (by omega) (by omega))⟩⟩⟩, hS.F ht⟩) hS.2.2 dX12_readAt_425
                      · have tc_36 : x_35.toInt < qq.toInt := v_nle c_36
                        refine lv_aload_n hx hb dX12_readAt_370 rfl (lv_at hl 3 rfl) ?_
                        refine lv_iload hx hb dX12_readAt_371 (lv_at hl 1 rfl) ?_
                        have hPc := hP.sub (ws' := [(oM, .inr (12, [.ref mT, .int zt, .ref mS, .ref mX, .int zp, .int zf, .ref mL, .ref mB, .ref mD, .ref m1, .ref m2, .int zh, .ref mR, .int zr, .ref x1, .ref x2, .ref x3, .int zc, .ref mH, .int zy, .int za, .int zb, .int zs, .int zq, .int zw, .int ze, .ref mY, .int zn, .ref mE, .int zm, .int zl, .ref mW, .int zk, .ref mO, .int x, .ref y1, .ref y2, .ref y3, .ref y4, .ref mZ])), (mY, .inl (cI, 2600, .inl eY))]) [1, 2] rfl
                        have hDc := hD.sub (ws' := [(oM, .inr (12, [.ref mT, .int zt, .ref mS, .ref mX, .int zp, .int zf, .ref mL, .ref mB, .ref mD, .ref m1, .ref m2, .int zh, .ref mR, .int zr, .ref x1, .ref x2, .ref x3, .int zc, .ref mH, .int zy, .int za, .int zb, .int zs, .int zq, .int zw, .int ze, .ref mY, .int zn, .ref mE, .int zm, .int zl, .ref mW, .int zk, .ref mO, .int x, .ref y1, .ref y2, .ref y3, .ref y4, .ref mZ])), (mY, .inl (cI, 2600, .inl eY))]) [1, 2] (by decide +kernel) rfl
                        have hFc := va_free (wc := [(oM, .inr (12, [.ref mT, .int zt, .ref mS, .ref mX, .int zp, .int zf, .ref mL, .ref mB, .ref mD, .ref m1, .ref m2, .int zh, .ref mR, .int zr, .ref x1, .ref x2, .ref x3, .int zc, .ref mH, .int zy, .int za, .int zb, .int zs, .int zq, .int zw, .int ze, .ref mY, .int zn, .ref mE, .int zm, .int zl, .ref mW, .int zk, .ref mO, .int x, .ref y1, .ref y2, .ref y3, .ref y4, .ref mZ])), (mY, .inl (cI, 2600, .inl eY))]) hD hS hA [1, 2] rfl
                        refine va_calli (va_runV (As := [.int qq]) (rest := []) ⟨hx, hb, hml, hown, hts⟩ (f_X12_byteAt l dC dI cI cS H.size oM mT mS mX mL mB mD m1 m2 mR x1 x2 x3 mH mY mE mW mO y1 y2 y3 y4 mZ zt zp zf zh zr zc zy za zb zs zq zw ze zn zm zl zk x eY qq (g_zt) (g_zp) (g_zf) (g_zh) (g_zr) (g_zc) (g_zy) (g_za) (g_zb) (g_zs) (g_zq) (g_zn) (g_zm) (g_zk) (g_eY) (by omega)) (cwV 1 hts gX12_readAt_X12_byteAt rfl rfl rfl (by decide +kernel) ⟨Nat.le_of_ble_eq_true rfl, Nat.le_of_ble_eq_true rfl⟩) ⟨fun a U g mk q => by obtain ⟨q0, q1, qP, qK, qD⟩ := q; exact ⟨q0, q1, qP, va_K.moved (u := U) (U := U.calling g mk a) (Vm.Alike.refl U.vm) qK, qD⟩, va_recv hK hPc (ci := 12) (q0 := 0) rfl rfl, fun U hU hW => ⟨rfl, by rw [hU], by rw [hU]; exact hPc, va_K.moved hW.alike hK, hDc.weaken (fun _ _ _ _ => trivial)⟩⟩ rfl rfl hl.1 rfl (lv_room (Nat.le_of_ble_eq_true rfl)) dX12_readAt_373 ⟨Nat.le_of_ble_eq_true rfl, Nat.le_of_ble_eq_true rfl⟩) hS (fun q _ h => hFc q h) hFc (fun r_38 u t H1 locs ht hvm hw hB hz1 hk1 hSn => ?_)
                        subst hw
                        obtain ⟨hP1, hD1, hf38_0, hf38_1, hf38_2⟩ := hB
                        rw [ht] at hP1
                        obtain ⟨hPn, hDn⟩ := va_join (wr := [(mL, .inl (cI, 512, .inl eL))]) (w1 := [(oM, .inr (12, [.ref mT, .int zt, .ref mS, .ref mX, .int zp, .int zf, .ref mL, .ref mB, .ref mD, .ref m1, .ref m2, .int zh, .ref mR, .int zr, .ref x1, .ref x2, .ref x3, .int zc, .ref mH, .int zy, .int za, .int zb, .int zs, .int zq, .int zw, .int ze, .ref mY, .int zn, .ref mE, .int zm, .int zl, .ref mW, .int zk, .ref mO, .int x, .ref y1, .ref y2, .ref y3, .ref y4, .ref mZ])), (mY, .inl (cI, 2600, .inl eY))]) hP hD [1, 2] [0] rfl rfl (by decide +kernel) (by decide +kernel) hk1 hFc hP1 hD1
                        clear hP hD hS hPc hDc hFc hk1 hz1 hvm ht hP1 hD1
                        generalize H1 = H at hPn hSn ⊢
                        have hP : va_P (dC, dI) vwCl [(mL, .inl (cI, 512, .inl eL)), (oM, .inr (12, [.ref mT, .int zt, .ref mS, .ref mX, .int zp, .int zf, .ref mL, .ref mB, .ref mD, .ref m1, .ref m2, .int zh, .ref mR, .int zr, .ref x1, .ref x2, .ref x3, .int zc, .ref mH, .int zy, .int za, .int zb, .int zs, .int zq, .int zw, .int ze, .ref mY, .int zn, .ref mE, .int zm, .int zl, .ref mW, .int zk, .ref mO, .int x, .ref y1, .ref y2, .ref y3, .ref y4, .ref mZ])), (mY, .inl (cI, 2600, .inl eY))] H := hPn
                        have hD : va_D A [(mL, .inl (cI, 512, .inl eL)), (oM, .inr (12, [.ref mT, .int zt, .ref mS, .ref mX, .int zp, .int zf, .ref mL, .ref mB, .ref mD, .ref m1, .ref m2, .int zh, .ref mR, .int zr, .ref x1, .ref x2, .ref x3, .int zc, .ref mH, .int zy, .int za, .int zb, .int zs, .int zq, .int zw, .int ze, .ref mY, .int zn, .ref mE, .int zm, .int zl, .ref mW, .int zk, .ref mO, .int x, .ref y1, .ref y2, .ref y3, .ref y4, .ref mZ])), (mY, .inl (cI, 2600, .inl eY))] := hDn
                        have hS := hSn
                        clear hPn hDn hSn
                        have hb38 : r_38.toInt = bo eY zn.toInt q.toNatClampNeg (2 + (qq.toInt - q.toInt - 2).toNat) := bt_ix (k := q.toNatClampNeg + (2 + (qq.toInt - q.toInt - 2).toNat)) hf38_2 (by omega)
                        refine lv_bipush (v := 59) hx hb dX12_readAt_376 (by decide) ?_
                        refine lv_icmp_ne (tgt := 407) hx hb dX12_readAt_378 (by decide) (fun c_39 => ?_) (fun c_39 => ?_)
                        · have tc_39 : ¬ r_38.toInt = 59 := v_ne c_39
                          refine lv_iconst (v := 0) hx hb dX12_readAt_407 (by decide) ?_
                          refine lv_istore (lv' := [(6, .int 0), (5, .int x), (4, .int qq), (3, .int x_1), (0, .ref oM), (1, .int cd), (2, .int q)]) hx hb dX12_readAt_408 hl (by decide) rfl (fun ls hl => ?_)
                          refine lv_iload hx hb dX12_readAt_410 (lv_at hl 0 rfl) ?_
                          refine lv_if_eq (tgt := 424) hx hb dX12_readAt_412 (by decide) (fun c_40 => ?_) (fun c_40 => absurd c_40 (by decide))
                          refine lv_iconst (v := 0) hx hb dX12_readAt_424 (by decide) ?_
                          have hP9 := hP.sub (ws' := [(oM, .inr (12, [.ref mT, .int zt, .ref mS, .ref mX, .int zp, .int zf, .ref mL, .ref mB, .ref mD, .ref m1, .ref m2, .int zh, .ref mR, .int zr, .ref x1, .ref x2, .ref x3, .int zc, .ref mH, .int zy, .int za, .int zb, .int zs, .int zq, .int zw, .int ze, .ref mY, .int zn, .ref mE, .int zm, .int zl, .ref mW, .int zk, .ref mO, .int x, .ref y1, .ref y2, .ref y3, .ref y4, .ref mZ])), (mY, .inl (cI, 2600, .inl eY)), (mL, .inl (cI, 512, .inl eL))]) [1, 2, 0] rfl
                          have hD9 := hD.sub (ws' := [(oM, .inr (12, [.ref mT, .int zt, .ref mS, .ref mX, .int zp, .int zf, .ref mL, .ref mB, .ref mD, .ref m1, .ref m2, .int zh, .ref mR, .int zr, .ref x1, .ref x2, .ref x3, .int zc, .ref mH, .int zy, .int za, .int zb, .int zs, .int zq, .int zw, .int ze, .ref mY, .int zn, .ref mE, .int zm, .int zl, .ref mW, .int zk, .ref mO, .int x, .ref y1, .ref y2, .ref y3, .ref y4, .ref mZ])), (mY, .inl (cI, 2600, .inl eY)), (mL, .inl (cI, 512, .inl eL))]) [1, 2, 0] (by decide +kernel) rfl
                          rw [hQQ]
                          exact W.iret (v := 0) hx hb hr (fun t ht hW => ⟨⟨0, 0, rfl, rfl, ⟨x, by rw [ht]; exact hP9, hD9, by decide, by show 0 = 0 ∨ (0 ≤ x.toInt ∧ x.toInt ≤ 65535); omega, Or.inr ⟨rfl, Dec_no (by rw [← ex_1]; first | (unfold alF; (repeat (first | rw [if_pos (by omega)] | rw [if_neg (by omega)])); done) | (exfalso; omega)) (fun e9 l9 x9 h9 => by unfold DMa DM at h9; omega) (fun _ => by first | exact NJ_no (B := bo eY zn.toInt q.toNatClampNeg) hnj hb38 (by omega) | exact NJ_no0 (B := bo eY zn.toInt q.toNatClampNeg) hnj (by omega) (by omega))⟩⟩⟩, hS.F ht⟩) hS.2.2 dX12_readAt_425
                        · have tc_39 : r_38.toInt = 59 := v_eq c_39
                          refine lv_iload hx hb dX12_readAt_381 (lv_at hl 0 rfl) ?_
                          have hPc := hP.sub (ws' := []) [] rfl
                          have hDc := hD.sub (ws' := []) [] (by decide +kernel) rfl
                          have hFc := va_free (wc := []) hD hS hA [] rfl
                          refine va_calli (va_runS (As := [.int x]) (rest := []) ⟨hx, hb, hml, hown, hts⟩ (m_X12_isLetter l dC dI cI cS H.size x ) (va_cwS 1 hts gX12_readAt_X12_isLetter rfl rfl rfl (by decide +kernel) ⟨Nat.le_of_ble_eq_true rfl, Nat.le_of_ble_eq_true rfl⟩) ⟨fun a U g mk q => by obtain ⟨q0, q1, qP, qK, qD⟩ := q; exact ⟨q0, q1, qP, va_K.moved (u := U) (U := U.calling g mk a) (Vm.Alike.refl U.vm) qK, qD⟩, fun U hU hW => ⟨rfl, by rw [hU], by rw [hU]; exact hPc, va_K.moved hW.alike hK, hDc.weaken (fun _ _ _ _ => trivial)⟩⟩ rfl rfl hl.1 rfl (lv_room (Nat.le_of_ble_eq_true rfl)) dX12_readAt_383 ⟨Nat.le_of_ble_eq_true rfl, Nat.le_of_ble_eq_true rfl⟩) hS (fun q _ h => hFc q h) hFc (fun r_41 u t H1 locs ht hvm hw hB hz1 hk1 hSn => ?_)
                          subst hw
                          obtain ⟨hP1, hD1, hf41_0, hf41_1⟩ := hB
                          rw [ht] at hP1
                          obtain ⟨hPn, hDn⟩ := va_join (wr := [(mL, .inl (cI, 512, .inl eL)), (oM, .inr (12, [.ref mT, .int zt, .ref mS, .ref mX, .int zp, .int zf, .ref mL, .ref mB, .ref mD, .ref m1, .ref m2, .int zh, .ref mR, .int zr, .ref x1, .ref x2, .ref x3, .int zc, .ref mH, .int zy, .int za, .int zb, .int zs, .int zq, .int zw, .int ze, .ref mY, .int zn, .ref mE, .int zm, .int zl, .ref mW, .int zk, .ref mO, .int x, .ref y1, .ref y2, .ref y3, .ref y4, .ref mZ])), (mY, .inl (cI, 2600, .inl eY))]) (w1 := []) hP hD [] [0, 1, 2] rfl rfl (by decide +kernel) (by decide +kernel) hk1 hFc hP1 hD1
                          clear hP hD hS hPc hDc hFc hk1 hz1 hvm ht hP1 hD1
                          generalize H1 = H at hPn hSn ⊢
                          have hP : va_P (dC, dI) vwCl [(mL, .inl (cI, 512, .inl eL)), (oM, .inr (12, [.ref mT, .int zt, .ref mS, .ref mX, .int zp, .int zf, .ref mL, .ref mB, .ref mD, .ref m1, .ref m2, .int zh, .ref mR, .int zr, .ref x1, .ref x2, .ref x3, .int zc, .ref mH, .int zy, .int za, .int zb, .int zs, .int zq, .int zw, .int ze, .ref mY, .int zn, .ref mE, .int zm, .int zl, .ref mW, .int zk, .ref mO, .int x, .ref y1, .ref y2, .ref y3, .ref y4, .ref mZ])), (mY, .inl (cI, 2600, .inl eY))] H := hPn
                          have hD : va_D A [(mL, .inl (cI, 512, .inl eL)), (oM, .inr (12, [.ref mT, .int zt, .ref mS, .ref mX, .int zp, .int zf, .ref mL, .ref mB, .ref mD, .ref m1, .ref m2, .int zh, .ref mR, .int zr, .ref x1, .ref x2, .ref x3, .int zc, .ref mH, .int zy, .int za, .int zb, .int zs, .int zq, .int zw, .int ze, .ref mY, .int zn, .ref mE, .int zm, .int zl, .ref mW, .int zk, .ref mO, .int x, .ref y1, .ref y2, .ref y3, .ref y4, .ref mZ])), (mY, .inl (cI, 2600, .inl eY))] := hDn
                          have hS := hSn
                          clear hPn hDn hSn
                          refine lv_if_eq (tgt := 407) hx hb dX12_readAt_386 (by decide) (fun c_42 => ?_) (fun c_42 => ?_)
                          · have tc_42 : r_41.toInt = 0 := v_eq c_42
                            refine lv_iconst (v := 0) hx hb dX12_readAt_407 (by decide) ?_
                            refine lv_istore (lv' := [(6, .int 0), (5, .int x), (4, .int qq), (3, .int x_1), (0, .ref oM), (1, .int cd), (2, .int q)]) hx hb dX12_readAt_408 hl (by decide) rfl (fun ls hl => ?_)
                            refine lv_iload hx hb dX12_readAt_410 (lv_at hl 0 rfl) ?_
                            refine lv_if_eq (tgt := 424) hx hb dX12_readAt_412 (by decide) (fun c_43 => ?_) (fun c_43 => absurd c_43 (by decide))
                            refine lv_iconst (v := 0) hx hb dX12_readAt_424 (by decide) ?_
                            have hP9 := hP.sub (ws' := [(oM, .inr (12, [.ref mT, .int zt, .ref mS, .ref mX, .int zp, .int zf, .ref mL, .ref mB, .ref mD, .ref m1, .ref m2, .int zh, .ref mR, .int zr, .ref x1, .ref x2, .ref x3, .int zc, .ref mH, .int zy, .int za, .int zb, .int zs, .int zq, .int zw, .int ze, .ref mY, .int zn, .ref mE, .int zm, .int zl, .ref mW, .int zk, .ref mO, .int x, .ref y1, .ref y2, .ref y3, .ref y4, .ref mZ])), (mY, .inl (cI, 2600, .inl eY)), (mL, .inl (cI, 512, .inl eL))]) [1, 2, 0] rfl
                            have hD9 := hD.sub (ws' := [(oM, .inr (12, [.ref mT, .int zt, .ref mS, .ref mX, .int zp, .int zf, .ref mL, .ref mB, .ref mD, .ref m1, .ref m2, .int zh, .ref mR, .int zr, .ref x1, .ref x2, .ref x3, .int zc, .ref mH, .int zy, .int za, .int zb, .int zs, .int zq, .int zw, .int ze, .ref mY, .int zn, .ref mE, .int zm, .int zl, .ref mW, .int zk, .ref mO, .int x, .ref y1, .ref y2, .ref y3, .ref y4, .ref mZ])), (mY, .inl (cI, 2600, .inl eY)), (mL, .inl (cI, 512, .inl eL))]) [1, 2, 0] (by decide +kernel) rfl
                            rw [hQQ]
                            exact W.iret (v := 0) hx hb hr (fun t ht hW => ⟨⟨0, 0, rfl, rfl, ⟨x, by rw [ht]; exact hP9, hD9, by decide, by show 0 = 0 ∨ (0 ≤ x.toInt ∧ x.toInt ≤ 65535); omega, Or.inr ⟨rfl, Dec_no (by rw [← ex_1]; first | (unfold alF; (repeat (first | rw [if_pos (by omega)] | rw [if_neg (by omega)])); done) | (exfalso; omega)) (fun e9 l9 x9 h9 => by unfold DMa DM at h9; omega) (fun _ => by first | exact NJ_no (B := bo eY zn.toInt q.toNatClampNeg) hnj hb38 (by omega) | exact NJ_no0 (B := bo eY zn.toInt q.toNatClampNeg) hnj (by omega) (by omega))⟩⟩⟩, hS.F ht⟩) hS.2.2 dX12_readAt_425
                          · have tc_42 : ¬ r_41.toInt = 0 := v_ne c_42
                            refine lv_iload hx hb dX12_readAt_389 (lv_at hl 0 rfl) ?_
                            refine lv_bipush (v := 38) hx hb dX12_readAt_391 (by decide) ?_
                            refine lv_icmp_eq (tgt := 403) hx hb dX12_readAt_393 (by decide) (fun c_44 => ?_) (fun c_44 => ?_)
                            · have tc_44 : x.toInt = 38 := v_eq c_44
                              refine lv_iconst (v := 1) hx hb dX12_readAt_403 (by decide) ?_
                              refine lv_goto (tgt := 408) hx hb dX12_readAt_404 (by decide) ?_
                              refine lv_istore (lv' := [(6, .int 1), (5, .int x), (4, .int qq), (3, .int x_1), (0, .ref oM), (1, .int cd), (2, .int q)]) hx hb dX12_readAt_408 hl (by decide) rfl (fun ls hl => ?_)
                              refine lv_iload hx hb dX12_readAt_410 (lv_at hl 0 rfl) ?_
                              refine lv_if_eq (tgt := 424) hx hb dX12_readAt_412 (by decide) (fun c_45 => absurd c_45 (by decide)) (fun c_45 => ?_)
                              refine lv_iload hx hb dX12_readAt_415 (lv_at hl 2 rfl) ?_
                              refine lv_iload_n hx hb dX12_readAt_417 rfl (lv_at hl 6 rfl) ?_
                              refine lv_isub hx hb dX12_readAt_418 ?_
                              refine lv_topi (fun x_46 ex_46 => ?_)
                              have tx_46 : x_46.toInt = qq.toInt - q.toInt := v_sub ex_46 (by show -2147483648 ≤ qq.toInt - q.toInt; omega) (by show qq.toInt - q.toInt < 2147483648; omega)
                              refine lv_iconst (v := 1) hx hb dX12_readAt_419 (by decide) ?_
                              refine lv_iadd hx hb dX12_readAt_420 ?_
                              refine lv_topi (fun x_47 ex_47 => ?_)
                              have tx_47 : x_47.toInt = x_46.toInt + 1 := v_add ex_47 (by show -2147483648 ≤ x_46.toInt + 1; omega) (by show x_46.toInt + 1 < 2147483648; omega)
                              refine lv_goto (tgt := 425) hx hb dX12_readAt_421 (by decide) ?_
                              have hP9 := hP.sub (ws' := [(oM, .inr (12, [.ref mT, .int zt, .ref mS, .ref mX, .int zp, .int zf, .ref mL, .ref mB, .ref mD, .ref m1, .ref m2, .int zh, .ref mR, .int zr, .ref x1, .ref x2, .ref x3, .int zc, .ref mH, .int zy, .int za, .int zb, .int zs, .int zq, .int zw, .int ze, .ref mY, .int zn, .ref mE, .int zm, .int zl, .ref mW, .int zk, .ref mO, .int x, .ref y1, .ref y2, .ref y3, .ref y4, .ref mZ])), (mY, .inl (cI, 2600, .inl eY)), (mL, .inl (cI, 512, .inl eL))]) [1, 2, 0] rfl
                              have hD9 := hD.sub (ws' := [(oM, .inr (12, [.ref mT, .int zt, .ref mS, .ref mX, .int zp, .int zf, .ref mL, .ref mB, .ref mD, .ref m1, .ref m2, .int zh, .ref mR, .int zr, .ref x1, .ref x2, .ref x3, .int zc, .ref mH, .int zy, .int za, .int zb, .int zs, .int zq, .int zw, .int ze, .ref mY, .int zn, .ref mE, .int zm, .int zl, .ref mW, .int zk, .ref mO, .int x, .ref y1, .ref y2, .ref y3, .ref y4, .ref mZ])), (mY, .inl (cI, 2600, .inl eY)), (mL, .inl (cI, 512, .inl eL))]) [1, 2, 0] (by decide +kernel) rfl
                              rw [hQQ]
                              exact W.iret (v := x_47) hx hb hr (fun t ht hW => ⟨⟨x_47, x_47, rfl, rfl, ⟨x, by rw [ht]; exact hP9, hD9, by omega, by show x_47.toInt = 0 ∨ (0 ≤ x.toInt ∧ x.toInt ≤ 65535); omega, Or.inl ⟨(qq.toInt - q.toInt - 2).toNat + 3, by omega, by omega, Or.inr (Or.inr ⟨by omega, NJ_of (B := bo eY zn.toInt q.toNatClampNeg) hnj (by rw [← hb38]; omega) (by show bt eY zn.toInt q.toNatClampNeg = 38; omega) (by show bt eY zn.toInt (q.toNatClampNeg + 1) = 35; omega) (by omega) (by omega) (by omega) (by omega)⟩)⟩⟩⟩, hS.F ht⟩) hS.2.2 dX12_readAt_425
                            · have tc_44 : ¬ x.toInt = 38 := v_ne c_44
                              refine lv_iload hx hb dX12_readAt_396 (lv_at hl 0 rfl) ?_
                              refine lv_bipush (v := 127) hx hb dX12_readAt_398 (by decide) ?_
                              refine lv_icmp_le (tgt := 407) hx hb dX12_readAt_400 (by decide) (fun c_48 => ?_) (fun c_48 => ?_)
                              · have tc_48 : x.toInt ≤ 127 := v_le c_48
                                refine lv_iconst (v := 0) hx hb dX12_readAt_407 (by decide) ?_
                                refine lv_istore (lv' := [(6, .int 0), (5, .int x), (4, .int qq), (3, .int x_1), (0, .ref oM), (1, .int cd), (2, .int q)]) hx hb dX12_readAt_408 hl (by decide) rfl (fun ls hl => ?_)
                                refine lv_iload hx hb dX12_readAt_410 (lv_at hl 0 rfl) ?_
                                refine lv_if_eq (tgt := 424) hx hb dX12_readAt_412 (by decide) (fun c_49 => ?_) (fun c_49 => absurd c_49 (by decide))
                                refine lv_iconst (v := 0) hx hb dX12_readAt_424 (by decide) ?_
                                have hP9 := hP.sub (ws' := [(oM, .inr (12, [.ref mT, .int zt, .ref mS, .ref mX, .int zp, .int zf, .ref mL, .ref mB, .ref mD, .ref m1, .ref m2, .int zh, .ref mR, .int zr, .ref x1, .ref x2, .ref x3, .int zc, .ref mH, .int zy, .int za, .int zb, .int zs, .int zq, .int zw, .int ze, .ref mY, .int zn, .ref mE, .int zm, .int zl, .ref mW, .int zk, .ref mO, .int x, .ref y1, .ref y2, .ref y3, .ref y4, .ref mZ])), (mY, .inl (cI, 2600, .inl eY)), (mL, .inl (cI, 512, .inl eL))]) [1, 2, 0] rfl
                                have hD9 := hD.sub (ws' := [(oM, .inr (12, [.ref mT, .int zt, .ref mS, .ref mX, .int zp, .int zf, .ref mL, .ref mB, .ref mD, .ref m1, .ref m2, .int zh, .ref mR, .int zr, .ref x1, .ref x2, .ref x3, .int zc, .ref mH, .int zy, .int za, .int zb, .int zs, .int zq, .int zw, .int ze, .ref mY, .int zn, .ref mE, .int zm, .int zl, .ref mW, .int zk, .ref mO, .int x, .ref y1, .ref y2, .ref y3, .ref y4, .ref mZ])), (mY, .inl (cI, 2600, .inl eY)), (mL, .inl (cI, 512, .inl eL))]) [1, 2, 0] (by decide +kernel) rfl
                                rw [hQQ]
                                exact W.iret (v := 0) hx hb hr (fun t ht hW => ⟨⟨0, 0, rfl, rfl, ⟨x, by rw [ht]; exact hP9, hD9, by decide, by show 0 = 0 ∨ (0 ≤ x.toInt ∧ x.toInt ≤ 65535); omega, Or.inr ⟨rfl, Dec_no (by rw [← ex_1]; first | (unfold alF; (repeat (first | rw [if_pos (by omega)] | rw [if_neg (by omega)])); done) | (exfalso; omega)) (fun e9 l9 x9 h9 => by unfold DMa DM at h9; omega) (fun _ => by first | exact NJ_no (B := bo eY zn.toInt q.toNatClampNeg) hnj hb38 (by omega) | exact NJ_no0 (B := bo eY zn.toInt q.toNatClampNeg) hnj (by omega) (by omega))⟩⟩⟩, hS.F ht⟩) hS.2.2 dX12_readAt_425
                              · have tc_48 : 127 < x.toInt := v_nle c_48
                                refine lv_iconst (v := 1) hx hb dX12_readAt_403 (by decide) ?_
                                refine lv_goto (tgt := 408) hx hb dX12_readAt_404 (by decide) ?_
                                refine lv_istore (lv' := [(6, .int 1), (5, .int x), (4, .int qq), (3, .int x_1), (0, .ref oM), (1, .int cd), (2, .int q)]) hx hb dX12_readAt_408 hl (by decide) rfl (fun ls hl => ?_)
                                refine lv_iload hx hb dX12_readAt_410 (lv_at hl 0 rfl) ?_
                                refine lv_if_eq (tgt := 424) hx hb dX12_readAt_412 (by decide) (fun c_50 => absurd c_50 (by decide)) (fun c_50 => ?_)
                                refine lv_iload hx hb dX12_readAt_415 (lv_at hl 2 rfl) ?_
                                refine lv_iload_n hx hb dX12_readAt_417 rfl (lv_at hl 6 rfl) ?_
                                refine lv_isub hx hb dX12_readAt_418 ?_
                                refine lv_topi (fun x_51 ex_51 => ?_)
                                have tx_51 : x_51.toInt = qq.toInt - q.toInt := v_sub ex_51 (by show -2147483648 ≤ qq.toInt - q.toInt; omega) (by show qq.toInt - q.toInt < 2147483648; omega)
                                refine lv_iconst (v := 1) hx hb dX12_readAt_419 (by decide) ?_
                                refine lv_iadd hx hb dX12_readAt_420 ?_
                                refine lv_topi (fun x_52 ex_52 => ?_)
                                have tx_52 : x_52.toInt = x_51.toInt + 1 := v_add ex_52 (by show -2147483648 ≤ x_51.toInt + 1; omega) (by show x_51.toInt + 1 < 2147483648; omega)
                                refine lv_goto (tgt := 425) hx hb dX12_readAt_421 (by decide) ?_
                                have hP9 := hP.sub (ws' := [(oM, .inr (12, [.ref mT, .int zt, .ref mS, .ref mX, .int zp, .int zf, .ref mL, .ref mB, .ref mD, .ref m1, .ref m2, .int zh, .ref mR, .int zr, .ref x1, .ref x2, .ref x3, .int zc, .ref mH, .int zy, .int za, .int zb, .int zs, .int zq, .int zw, .int ze, .ref mY, .int zn, .ref mE, .int zm, .int zl, .ref mW, .int zk, .ref mO, .int x, .ref y1, .ref y2, .ref y3, .ref y4, .ref mZ])), (mY, .inl (cI, 2600, .inl eY)), (mL, .inl (cI, 512, .inl eL))]) [1, 2, 0] rfl
                                have hD9 := hD.sub (ws' := [(oM, .inr (12, [.ref mT, .int zt, .ref mS, .ref mX, .int zp, .int zf, .ref mL, .ref mB, .ref mD, .ref m1, .ref m2, .int zh, .ref mR, .int zr, .ref x1, .ref x2, .ref x3, .int zc, .ref mH, .int zy, .int za, .int zb, .int zs, .int zq, .int zw, .int ze, .ref mY, .int zn, .ref mE, .int zm, .int zl, .ref mW, .int zk, .ref mO, .int x, .ref y1, .ref y2, .ref y3, .ref y4, .ref mZ])), (mY, .inl (cI, 2600, .inl eY)), (mL, .inl (cI, 512, .inl eL))]) [1, 2, 0] (by decide +kernel) rfl
                                rw [hQQ]
                                exact W.iret (v := x_52) hx hb hr (fun t ht hW => ⟨⟨x_52, x_52, rfl, rfl, ⟨x, by rw [ht]; exact hP9, hD9, by omega, by show x_52.toInt = 0 ∨ (0 ≤ x.toInt ∧ x.toInt ≤ 65535); omega, Or.inl ⟨(qq.toInt - q.toInt - 2).toNat + 3, by omega, by omega, Or.inr (Or.inr ⟨by omega, NJ_of (B := bo eY zn.toInt q.toNatClampNeg) hnj (by rw [← hb38]; omega) (by show bt eY zn.toInt q.toNatClampNeg = 38; omega) (by show bt eY zn.toInt (q.toNatClampNeg + 1) = 35; omega) (by omega) (by omega) (by omega) (by omega)⟩)⟩⟩⟩, hS.F ht⟩) hS.2.2 dX12_readAt_425
                    · have tc_34 : r_33.toInt ≤ 57 := v_nlt c_34
                      have hnr := NJ_r hnj
                      refine lv_iload hx hb dX12_readAt_308 (lv_at hl 1 rfl) ?_
                      refine lv_iload_n hx hb dX12_readAt_310 rfl (lv_at hl 5 rfl) ?_
                      refine lv_isub hx hb dX12_readAt_311 ?_
                      refine lv_topi (fun x_53 ex_53 => ?_)
                      have tx_53 : x_53.toInt = qq.toInt - q.toInt := v_sub ex_53 (by show -2147483648 ≤ qq.toInt - q.toInt; omega) (by show qq.toInt - q.toInt < 2147483648; omega)
                      refine lv_bipush (v := 8) hx hb dX12_readAt_312 (by decide) ?_
                      refine lv_icmp_ge (tgt := 356) hx hb dX12_readAt_314 (by decide) (fun c_54 => ?_) (fun c_54 => ?_)
                      · have tc_54 : 8 ≤ x_53.toInt := v_le c_54
                        have hnr9 := NJ_r hnj
                        refine lv_aload_n hx hb dX12_readAt_356 rfl (lv_at hl 3 rfl) ?_
                        refine lv_iload hx hb dX12_readAt_357 (lv_at hl 0 rfl) ?_
                        refine va_put (D := (dC, dI)) (ci := 12) (v := .int x) (ty := .int) (C := RX12) (T := TX12) (N := 40) hx hb hts in_X12 tyX12 tyX12_ok nmX12 hown hK hP hD hS 1 rfl rfl 34 (by decide) (hts (.fieldLink RX12 105 "TextMenderModel" "readLetter" "I") (List.mem_of_getElem? (i := 2) rfl)) (fun _ h9 => h9) rfl (by decide +kernel) rfl rfl (Nat.le_of_ble_eq_true rfl) dX12_readAt_359 (fun H locs hPn hDn hSn => ?_)
                        clear hP hD hS
                        have hP : va_P (dC, dI) vwCl [(mL, .inl (cI, 512, .inl eL)), (oM, .inr (12, [.ref mT, .int zt, .ref mS, .ref mX, .int zp, .int zf, .ref mL, .ref mB, .ref mD, .ref m1, .ref m2, .int zh, .ref mR, .int zr, .ref x1, .ref x2, .ref x3, .int zc, .ref mH, .int zy, .int za, .int zb, .int zs, .int zq, .int zw, .int ze, .ref mY, .int zn, .ref mE, .int zm, .int zl, .ref mW, .int zk, .ref mO, .int x, .ref y1, .ref y2, .ref y3, .ref y4, .ref mZ])), (mY, .inl (cI, 2600, .inl eY))] H := hPn
                        have hD : va_D A [(mL, .inl (cI, 512, .inl eL)), (oM, .inr (12, [.ref mT, .int zt, .ref mS, .ref mX, .int zp, .int zf, .ref mL, .ref mB, .ref mD, .ref m1, .ref m2, .int zh, .ref mR, .int zr, .ref x1, .ref x2, .ref x3, .int zc, .ref mH, .int zy, .int za, .int zb, .int zs, .int zq, .int zw, .int ze, .ref mY, .int zn, .ref mE, .int zm, .int zl, .ref mW, .int zk, .ref mO, .int x, .ref y1, .ref y2, .ref y3, .ref y4, .ref mZ])), (mY, .inl (cI, 2600, .inl eY))] := hDn
                        have hS := hSn
                        clear hPn hDn hSn
                        refine lv_iload hx hb dX12_readAt_362 (lv_at hl 1 rfl) ?_
                        refine lv_iload_n hx hb dX12_readAt_364 rfl (lv_at hl 5 rfl) ?_
                        refine lv_iconst (v := 2) hx hb dX12_readAt_365 (by decide) ?_
                        refine lv_iadd hx hb dX12_readAt_366 ?_
                        refine lv_topi (fun x_55 ex_55 => ?_)
                        have tx_55 : x_55.toInt = q.toInt + 2 := v_add ex_55 (by show -2147483648 ≤ q.toInt + 2; omega) (by show q.toInt + 2 < 2147483648; omega)
                        refine lv_icmp_le (tgt := 407) hx hb dX12_readAt_367 (by decide) (fun c_56 => ?_) (fun c_56 => ?_)
                        · have tc_56 : qq.toInt ≤ x_55.toInt := v_le c_56
                          refine lv_iconst (v := 0) hx hb dX12_readAt_407 (by decide) ?_
                          refine lv_istore (lv' := [(6, .int 0), (5, .int x), (4, .int qq), (3, .int x_1), (0, .ref oM), (1, .int cd), (2, .int q)]) hx hb dX12_readAt_408 hl (by decide) rfl (fun ls hl => ?_)
                          refine lv_iload hx hb dX12_readAt_410 (lv_at hl 0 rfl) ?_
                          refine lv_if_eq (tgt := 424) hx hb dX12_readAt_412 (by decide) (fun c_57 => ?_) (fun c_57 => absurd c_57 (by decide))
                          refine lv_iconst (v := 0) hx hb dX12_readAt_424 (by decide) ?_
                          have hP9 := hP.sub (ws' := [(oM, .inr (12, [.ref mT, .int zt, .ref mS, .ref mX, .int zp, .int zf, .ref mL, .ref mB, .ref mD, .ref m1, .ref m2, .int zh, .ref mR, .int zr, .ref x1, .ref x2, .ref x3, .int zc, .ref mH, .int zy, .int za, .int zb, .int zs, .int zq, .int zw, .int ze, .ref mY, .int zn, .ref mE, .int zm, .int zl, .ref mW, .int zk, .ref mO, .int x, .ref y1, .ref y2, .ref y3, .ref y4, .ref mZ])), (mY, .inl (cI, 2600, .inl eY)), (mL, .inl (cI, 512, .inl eL))]) [1, 2, 0] rfl
                          have hD9 := hD.sub (ws' := [(oM, .inr (12, [.ref mT, .int zt, .ref mS, .ref mX, .int zp, .int zf, .ref mL, .ref mB, .ref mD, .ref m1, .ref m2, .int zh, .ref mR, .int zr, .ref x1, .ref x2, .ref x3, .int zc, .ref mH, .int zy, .int za, .int zb, .int zs, .int zq, .int zw, .int ze, .ref mY, .int zn, .ref mE, .int zm, .int zl, .ref mW, .int zk, .ref mO, .int x, .ref y1, .ref y2, .ref y3, .ref y4, .ref mZ])), (mY, .inl (cI, 2600, .inl eY)), (mL, .inl (cI, 512, .inl eL))]) [1, 2, 0] (by decide +kernel) rfl
                          rw [hQQ]
                          exact W.iret (v := 0) hx hb hr (fun t ht hW => ⟨⟨0, 0, rfl, rfl, ⟨x, by rw [ht]; exact hP9, hD9, by decide, by show 0 = 0 ∨ (0 ≤ x.toInt ∧ x.toInt ≤ 65535); omega, Or.inr ⟨rfl, Dec_no (by rw [← ex_1]; first | (unfold alF; (repeat (first | rw [if_pos (by omega)] | rw [if_neg (by omega)])); done) | (exfalso; omega)) (fun e9 l9 x9 h9 => by unfold DMa DM at h9; omega) (fun _ => by first | exact NJ_no (B := bo eY zn.toInt q.toNatClampNeg) hnj hb33 (by omega) | exact NJ_no0 (B := bo eY zn.toInt q.toNatClampNeg) hnj (by omega) (by omega))⟩⟩⟩, hS.F ht⟩) hS.2.2 dX12_readAt_425
                        · have tc_56 : x_55.toInt < qq.toInt := v_nle c_56
                          refine lv_aload_n hx hb dX12_readAt_370 rfl (lv_at hl 3 rfl) ?_
                          refine lv_iload hx hb dX12_readAt_371 (lv_at hl 1 rfl) ?_
                          have hPc := hP.sub (ws' := [(oM, .inr (12, [.ref mT, .int zt, .ref mS, .ref mX, .int zp, .int zf, .ref mL, .ref mB, .ref mD, .ref m1, .ref m2, .int zh, .ref mR, .int zr, .ref x1, .ref x2, .ref x3, .int zc, .ref mH, .int zy, .int za, .int zb, .int zs, .int zq, .int zw, .int ze, .ref mY, .int zn, .ref mE, .int zm, .int zl, .ref mW, .int zk, .ref mO, .int x, .ref y1, .ref y2, .ref y3, .ref y4, .ref mZ])), (mY, .inl (cI, 2600, .inl eY))]) [1, 2] rfl
                          have hDc := hD.sub (ws' := [(oM, .inr (12, [.ref mT, .int zt, .ref mS, .ref mX, .int zp, .int zf, .ref mL, .ref mB, .ref mD, .ref m1, .ref m2, .int zh, .ref mR, .int zr, .ref x1, .ref x2, .ref x3, .int zc, .ref mH, .int zy, .int za, .int zb, .int zs, .int zq, .int zw, .int ze, .ref mY, .int zn, .ref mE, .int zm, .int zl, .ref mW, .int zk, .ref mO, .int x, .ref y1, .ref y2, .ref y3, .ref y4, .ref mZ])), (mY, .inl (cI, 2600, .inl eY))]) [1, 2] (by decide +kernel) rfl
                          have hFc := va_free (wc := [(oM, .inr (12, [.ref mT, .int zt, .ref mS, .ref mX, .int zp, .int zf, .ref mL, .ref mB, .ref mD, .ref m1, .ref m2, .int zh, .ref mR, .int zr, .ref x1, .ref x2, .ref x3, .int zc, .ref mH, .int zy, .int za, .int zb, .int zs, .int zq, .int zw, .int ze, .ref mY, .int zn, .ref mE, .int zm, .int zl, .ref mW, .int zk, .ref mO, .int x, .ref y1, .ref y2, .ref y3, .ref y4, .ref mZ])), (mY, .inl (cI, 2600, .inl eY))]) hD hS hA [1, 2] rfl
                          refine va_calli (va_runV (As := [.int qq]) (rest := []) ⟨hx, hb, hml, hown, hts⟩ (f_X12_byteAt l dC dI cI cS H.size oM mT mS mX mL mB mD m1 m2 mR x1 x2 x3 mH mY mE mW mO y1 y2 y3 y4 mZ zt zp zf zh zr zc zy za zb zs zq zw ze zn zm zl zk x eY qq (g_zt) (g_zp) (g_zf) (g_zh) (g_zr) (g_zc) (g_zy) (g_za) (g_zb) (g_zs) (g_zq) (g_zn) (g_zm) (g_zk) (g_eY) (by omega)) (cwV 1 hts gX12_readAt_X12_byteAt rfl rfl rfl (by decide +kernel) ⟨Nat.le_of_ble_eq_true rfl, Nat.le_of_ble_eq_true rfl⟩) ⟨fun a U g mk q => by obtain ⟨q0, q1, qP, qK, qD⟩ := q; exact ⟨q0, q1, qP, va_K.moved (u := U) (U := U.calling g mk a) (Vm.Alike.refl U.vm) qK, qD⟩, va_recv hK hPc (ci := 12) (q0 := 0) rfl rfl, fun U hU hW => ⟨rfl, by rw [hU], by rw [hU]; exact hPc, va_K.moved hW.alike hK, hDc.weaken (fun _ _ _ _ => trivial)⟩⟩ rfl rfl hl.1 rfl (lv_room (Nat.le_of_ble_eq_true rfl)) dX12_readAt_373 ⟨Nat.le_of_ble_eq_true rfl, Nat.le_of_ble_eq_true rfl⟩) hS (fun q _ h => hFc q h) hFc (fun r_58 u t H1 locs ht hvm hw hB hz1 hk1 hSn => ?_)
                          subst hw
                          obtain ⟨hP1, hD1, hf58_0, hf58_1, hf58_2⟩ := hB
                          rw [ht] at hP1
                          obtain ⟨hPn, hDn⟩ := va_join (wr := [(mL, .inl (cI, 512, .inl eL))]) (w1 := [(oM, .inr (12, [.ref mT, .int zt, .ref mS, .ref mX, .int zp, .int zf, .ref mL, .ref mB, .ref mD, .ref m1, .ref m2, .int zh, .ref mR, .int zr, .ref x1, .ref x2, .ref x3, .int zc, .ref mH, .int zy, .int za, .int zb, .int zs, .int zq, .int zw, .int ze, .ref mY, .int zn, .ref mE, .int zm, .int zl, .ref mW, .int zk, .ref mO, .int x, .ref y1, .ref y2, .ref y3, .ref y4, .ref mZ])), (mY, .inl (cI, 2600, .inl eY))]) hP hD [1, 2] [0] rfl rfl (by decide +kernel) (by decide +kernel) hk1 hFc hP1 hD1
                          clear hP hD hS hPc hDc hFc hk1 hz1 hvm ht hP1 hD1
                          generalize H1 = H at hPn hSn ⊢
                          have hP : va_P (dC, dI) vwCl [(mL, .inl (cI, 512, .inl eL)), (oM, .inr (12, [.ref mT, .int zt, .ref mS, .ref mX, .int zp, .int zf, .ref mL, .ref mB, .ref mD, .ref m1, .ref m2, .int zh, .ref mR, .int zr, .ref x1, .ref x2, .ref x3, .int zc, .ref mH, .int zy, .int za, .int zb, .int zs, .int zq, .int zw, .int ze, .ref mY, .int zn, .ref mE, .int zm, .int zl, .ref mW, .int zk, .ref mO, .int x, .ref y1, .ref y2, .ref y3, .ref y4, .ref mZ])), (mY, .inl (cI, 2600, .inl eY))] H := hPn
                          have hD : va_D A [(mL, .inl (cI, 512, .inl eL)), (oM, .inr (12, [.ref mT, .int zt, .ref mS, .ref mX, .int zp, .int zf, .ref mL, .ref mB, .ref mD, .ref m1, .ref m2, .int zh, .ref mR, .int zr, .ref x1, .ref x2, .ref x3, .int zc, .ref mH, .int zy, .int za, .int zb, .int zs, .int zq, .int zw, .int ze, .ref mY, .int zn, .ref mE, .int zm, .int zl, .ref mW, .int zk, .ref mO, .int x, .ref y1, .ref y2, .ref y3, .ref y4, .ref mZ])), (mY, .inl (cI, 2600, .inl eY))] := hDn
                          have hS := hSn
                          clear hPn hDn hSn
                          have hb58 : r_58.toInt = bo eY zn.toInt q.toNatClampNeg (2 + (qq.toInt - q.toInt - 2).toNat) := bt_ix (k := q.toNatClampNeg + (2 + (qq.toInt - q.toInt - 2).toNat)) hf58_2 (by omega)
                          refine lv_bipush (v := 59) hx hb dX12_readAt_376 (by decide) ?_
                          refine lv_icmp_ne (tgt := 407) hx hb dX12_readAt_378 (by decide) (fun c_59 => ?_) (fun c_59 => ?_)
                          · have tc_59 : ¬ r_58.toInt = 59 := v_ne c_59
                            refine lv_iconst (v := 0) hx hb dX12_readAt_407 (by decide) ?_
                            refine lv_istore (lv' := [(6, .int 0), (5, .int x), (4, .int qq), (3, .int x_1), (0, .ref oM), (1, .int cd), (2, .int q)]) hx hb dX12_readAt_408 hl (by decide) rfl (fun ls hl => ?_)
                            refine lv_iload hx hb dX12_readAt_410 (lv_at hl 0 rfl) ?_
                            refine lv_if_eq (tgt := 424) hx hb dX12_readAt_412 (by decide) (fun c_60 => ?_) (fun c_60 => absurd c_60 (by decide))
                            refine lv_iconst (v := 0) hx hb dX12_readAt_424 (by decide) ?_
                            have hP9 := hP.sub (ws' := [(oM, .inr (12, [.ref mT, .int zt, .ref mS, .ref mX, .int zp, .int zf, .ref mL, .ref mB, .ref mD, .ref m1, .ref m2, .int zh, .ref mR, .int zr, .ref x1, .ref x2, .ref x3, .int zc, .ref mH, .int zy, .int za, .int zb, .int zs, .int zq, .int zw, .int ze, .ref mY, .int zn, .ref mE, .int zm, .int zl, .ref mW, .int zk, .ref mO, .int x, .ref y1, .ref y2, .ref y3, .ref y4, .ref mZ])), (mY, .inl (cI, 2600, .inl eY)), (mL, .inl (cI, 512, .inl eL))]) [1, 2, 0] rfl
                            have hD9 := hD.sub (ws' := [(oM, .inr (12, [.ref mT, .int zt, .ref mS, .ref mX, .int zp, .int zf, .ref mL, .ref mB, .ref mD, .ref m1, .ref m2, .int zh, .ref mR, .int zr, .ref x1, .ref x2, .ref x3, .int zc, .ref mH, .int zy, .int za, .int zb, .int zs, .int zq, .int zw, .int ze, .ref mY, .int zn, .ref mE, .int zm, .int zl, .ref mW, .int zk, .ref mO, .int x, .ref y1, .ref y2, .ref y3, .ref y4, .ref mZ])), (mY, .inl (cI, 2600, .inl eY)), (mL, .inl (cI, 512, .inl eL))]) [1, 2, 0] (by decide +kernel) rfl
                            rw [hQQ]
                            exact W.iret (v := 0) hx hb hr (fun t ht hW => ⟨⟨0, 0, rfl, rfl, ⟨x, by rw [ht]; exact hP9, hD9, by decide, by show 0 = 0 ∨ (0 ≤ x.toInt ∧ x.toInt ≤ 65535); omega, Or.inr ⟨rfl, Dec_no (by rw [← ex_1]; first | (unfold alF; (repeat (first | rw [if_pos (by omega)] | rw [if_neg (by omega)])); done) | (exfalso; omega)) (fun e9 l9 x9 h9 => by unfold DMa DM at h9; omega) (fun _ => by first | exact NJ_no (B := bo eY zn.toInt q.toNatClampNeg) hnj hb58 (by omega) | exact NJ_no0 (B := bo eY zn.toInt q.toNatClampNeg) hnj (by omega) (by omega))⟩⟩⟩, hS.F ht⟩) hS.2.2 dX12_readAt_425
                          · have tc_59 : r_58.toInt = 59 := v_eq c_59
                            refine lv_iload hx hb dX12_readAt_381 (lv_at hl 0 rfl) ?_
                            have hPc := hP.sub (ws' := []) [] rfl
                            have hDc := hD.sub (ws' := []) [] (by decide +kernel) rfl
                            have hFc := va_free (wc := []) hD hS hA [] rfl
                            refine va_calli (va_runS (As := [.int x]) (rest := []) ⟨hx, hb, hml, hown, hts⟩ (m_X12_isLetter l dC dI cI cS H.size x ) (va_cwS 1 hts gX12_readAt_X12_isLetter rfl rfl rfl (by decide +kernel) ⟨Nat.le_of_ble_eq_true rfl, Nat.le_of_ble_eq_true rfl⟩) ⟨fun a U g mk q => by obtain ⟨q0, q1, qP, qK, qD⟩ := q; exact ⟨q0, q1, qP, va_K.moved (u := U) (U := U.calling g mk a) (Vm.Alike.refl U.vm) qK, qD⟩, fun U hU hW => ⟨rfl, by rw [hU], by rw [hU]; exact hPc, va_K.moved hW.alike hK, hDc.weaken (fun _ _ _ _ => trivial)⟩⟩ rfl rfl hl.1 rfl (lv_room (Nat.le_of_ble_eq_true rfl)) dX12_readAt_383 ⟨Nat.le_of_ble_eq_true rfl, Nat.le_of_ble_eq_true rfl⟩) hS (fun q _ h => hFc q h) hFc (fun r_61 u t H1 locs ht hvm hw hB hz1 hk1 hSn => ?_)
                            subst hw
                            obtain ⟨hP1, hD1, hf61_0, hf61_1⟩ := hB
                            rw [ht] at hP1
                            obtain ⟨hPn, hDn⟩ := va_join (wr := [(mL, .inl (cI, 512, .inl eL)), (oM, .inr (12, [.ref mT, .int zt, .ref mS, .ref mX, .int zp, .int zf, .ref mL, .ref mB, .ref mD, .ref m1, .ref m2, .int zh, .ref mR, .int zr, .ref x1, .ref x2, .ref x3, .int zc, .ref mH, .int zy, .int za, .int zb, .int zs, .int zq, .int zw, .int ze, .ref mY, .int zn, .ref mE, .int zm, .int zl, .ref mW, .int zk, .ref mO, .int x, .ref y1, .ref y2, .ref y3, .ref y4, .ref mZ])), (mY, .inl (cI, 2600, .inl eY))]) (w1 := []) hP hD [] [0, 1, 2] rfl rfl (by decide +kernel) (by decide +kernel) hk1 hFc hP1 hD1
                            clear hP hD hS hPc hDc hFc hk1 hz1 hvm ht hP1 hD1
                            generalize H1 = H at hPn hSn ⊢
                            have hP : va_P (dC, dI) vwCl [(mL, .inl (cI, 512, .inl eL)), (oM, .inr (12, [.ref mT, .int zt, .ref mS, .ref mX, .int zp, .int zf, .ref mL, .ref mB, .ref mD, .ref m1, .ref m2, .int zh, .ref mR, .int zr, .ref x1, .ref x2, .ref x3, .int zc, .ref mH, .int zy, .int za, .int zb, .int zs, .int zq, .int zw, .int ze, .ref mY, .int zn, .ref mE, .int zm, .int zl, .ref mW, .int zk, .ref mO, .int x, .ref y1, .ref y2, .ref y3, .ref y4, .ref mZ])), (mY, .inl (cI, 2600, .inl eY))] H := hPn
                            have hD : va_D A [(mL, .inl (cI, 512, .inl eL)), (oM, .inr (12, [.ref mT, .int zt, .ref mS, .ref mX, .int zp, .int zf, .ref mL, .ref mB, .ref mD, .ref m1, .ref m2, .int zh, .ref mR, .int zr, .ref x1, .ref x2, .ref x3, .int zc, .ref mH, .int zy, .int za, .int zb, .int zs, .int zq, .int zw, .int ze, .ref mY, .int zn, .ref mE, .int zm, .int zl, .ref mW, .int zk, .ref mO, .int x, .ref y1, .ref y2, .ref y3, .ref y4, .ref mZ])), (mY, .inl (cI, 2600, .inl eY))] := hDn
                            have hS := hSn
                            clear hPn hDn hSn
                            refine lv_if_eq (tgt := 407) hx hb dX12_readAt_386 (by decide) (fun c_62 => ?_) (fun c_62 => ?_)
                            · have tc_62 : r_61.toInt = 0 := v_eq c_62
                              refine lv_iconst (v := 0) hx hb dX12_readAt_407 (by decide) ?_
                              refine lv_istore (lv' := [(6, .int 0), (5, .int x), (4, .int qq), (3, .int x_1), (0, .ref oM), (1, .int cd), (2, .int q)]) hx hb dX12_readAt_408 hl (by decide) rfl (fun ls hl => ?_)
                              refine lv_iload hx hb dX12_readAt_410 (lv_at hl 0 rfl) ?_
                              refine lv_if_eq (tgt := 424) hx hb dX12_readAt_412 (by decide) (fun c_63 => ?_) (fun c_63 => absurd c_63 (by decide))
                              refine lv_iconst (v := 0) hx hb dX12_readAt_424 (by decide) ?_
                              have hP9 := hP.sub (ws' := [(oM, .inr (12, [.ref mT, .int zt, .ref mS, .ref mX, .int zp, .int zf, .ref mL, .ref mB, .ref mD, .ref m1, .ref m2, .int zh, .ref mR, .int zr, .ref x1, .ref x2, .ref x3, .int zc, .ref mH, .int zy, .int za, .int zb, .int zs, .int zq, .int zw, .int ze, .ref mY, .int zn, .ref mE, .int zm, .int zl, .ref mW, .int zk, .ref mO, .int x, .ref y1, .ref y2, .ref y3, .ref y4, .ref mZ])), (mY, .inl (cI, 2600, .inl eY)), (mL, .inl (cI, 512, .inl eL))]) [1, 2, 0] rfl
                              have hD9 := hD.sub (ws' := [(oM, .inr (12, [.ref mT, .int zt, .ref mS, .ref mX, .int zp, .int zf, .ref mL, .ref mB, .ref mD, .ref m1, .ref m2, .int zh, .ref mR, .int zr, .ref x1, .ref x2, .ref x3, .int zc, .ref mH, .int zy, .int za, .int zb, .int zs, .int zq, .int zw, .int ze, .ref mY, .int zn, .ref mE, .int zm, .int zl, .ref mW, .int zk, .ref mO, .int x, .ref y1, .ref y2, .ref y3, .ref y4, .ref mZ])), (mY, .inl (cI, 2600, .inl eY)), (mL, .inl (cI, 512, .inl eL))]) [1, 2, 0] (by decide +kernel) rfl
                              rw [hQQ]
                              exact W.iret (v := 0) hx hb hr (fun t ht hW => ⟨⟨0, 0, rfl, rfl, ⟨x, by rw [ht]; exact hP9, hD9, by decide, by show 0 = 0 ∨ (0 ≤ x.toInt ∧ x.toInt ≤ 65535); omega, Or.inr ⟨rfl, Dec_no (by rw [← ex_1]; first | (unfold alF; (repeat (first | rw [if_pos (by omega)] | rw [if_neg (by omega)])); done) | (exfalso; omega)) (fun e9 l9 x9 h9 => by unfold DMa DM at h9; omega) (fun _ => by first | exact NJ_no (B := bo eY zn.toInt q.toNatClampNeg) hnj hb58 (by omega) | exact NJ_no0 (B := bo eY zn.toInt q.toNatClampNeg) hnj (by omega) (by omega))⟩⟩⟩, hS.F ht⟩) hS.2.2 dX12_readAt_425
                            · have tc_62 : ¬ r_61.toInt = 0 := v_ne c_62
                              refine lv_iload hx hb dX12_readAt_389 (lv_at hl 0 rfl) ?_
                              refine lv_bipush (v := 38) hx hb dX12_readAt_391 (by decide) ?_
                              refine lv_icmp_eq (tgt := 403) hx hb dX12_readAt_393 (by decide) (fun c_64 => ?_) (fun c_64 => ?_)
                              · have tc_64 : x.toInt = 38 := v_eq c_64
                                refine lv_iconst (v := 1) hx hb dX12_readAt_403 (by decide) ?_
                                refine lv_goto (tgt := 408) hx hb dX12_readAt_404 (by decide) ?_
                                refine lv_istore (lv' := [(6, .int 1), (5, .int x), (4, .int qq), (3, .int x_1), (0, .ref oM), (1, .int cd), (2, .int q)]) hx hb dX12_readAt_408 hl (by decide) rfl (fun ls hl => ?_)
                                refine lv_iload hx hb dX12_readAt_410 (lv_at hl 0 rfl) ?_
                                refine lv_if_eq (tgt := 424) hx hb dX12_readAt_412 (by decide) (fun c_65 => absurd c_65 (by decide)) (fun c_65 => ?_)
                                refine lv_iload hx hb dX12_readAt_415 (lv_at hl 2 rfl) ?_
                                refine lv_iload_n hx hb dX12_readAt_417 rfl (lv_at hl 6 rfl) ?_
                                refine lv_isub hx hb dX12_readAt_418 ?_
                                refine lv_topi (fun x_66 ex_66 => ?_)
                                have tx_66 : x_66.toInt = qq.toInt - q.toInt := v_sub ex_66 (by show -2147483648 ≤ qq.toInt - q.toInt; omega) (by show qq.toInt - q.toInt < 2147483648; omega)
                                refine lv_iconst (v := 1) hx hb dX12_readAt_419 (by decide) ?_
                                refine lv_iadd hx hb dX12_readAt_420 ?_
                                refine lv_topi (fun x_67 ex_67 => ?_)
                                have tx_67 : x_67.toInt = x_66.toInt + 1 := v_add ex_67 (by show -2147483648 ≤ x_66.toInt + 1; omega) (by show x_66.toInt + 1 < 2147483648; omega)
                                refine lv_goto (tgt := 425) hx hb dX12_readAt_421 (by decide) ?_
                                have hP9 := hP.sub (ws' := [(oM, .inr (12, [.ref mT, .int zt, .ref mS, .ref mX, .int zp, .int zf, .ref mL, .ref mB, .ref mD, .ref m1, .ref m2, .int zh, .ref mR, .int zr, .ref x1, .ref x2, .ref x3, .int zc, .ref mH, .int zy, .int za, .int zb, .int zs, .int zq, .int zw, .int ze, .ref mY, .int zn, .ref mE, .int zm, .int zl, .ref mW, .int zk, .ref mO, .int x, .ref y1, .ref y2, .ref y3, .ref y4, .ref mZ])), (mY, .inl (cI, 2600, .inl eY)), (mL, .inl (cI, 512, .inl eL))]) [1, 2, 0] rfl
                                have hD9 := hD.sub (ws' := [(oM, .inr (12, [.ref mT, .int zt, .ref mS, .ref mX, .int zp, .int zf, .ref mL, .ref mB, .ref mD, .ref m1, .ref m2, .int zh, .ref mR, .int zr, .ref x1, .ref x2, .ref x3, .int zc, .ref mH, .int zy, .int za, .int zb, .int zs, .int zq, .int zw, .int ze, .ref mY, .int zn, .ref mE, .int zm, .int zl, .ref mW, .int zk, .ref mO, .int x, .ref y1, .ref y2, .ref y3, .ref y4, .ref mZ])), (mY, .inl (cI, 2600, .inl eY)), (mL, .inl (cI, 512, .inl eL))]) [1, 2, 0] (by decide +kernel) rfl
                                rw [hQQ]
                                exact W.iret (v := x_67) hx hb hr (fun t ht hW => ⟨⟨x_67, x_67, rfl, rfl, ⟨x, by rw [ht]; exact hP9, hD9, by omega, by show x_67.toInt = 0 ∨ (0 ≤ x.toInt ∧ x.toInt ≤ 65535); omega, Or.inl ⟨(qq.toInt - q.toInt - 2).toNat + 3, by omega, by omega, Or.inr (Or.inr ⟨by omega, NJ_of (B := bo eY zn.toInt q.toNatClampNeg) hnj (by rw [← hb58]; omega) (by show bt eY zn.toInt q.toNatClampNeg = 38; omega) (by show bt eY zn.toInt (q.toNatClampNeg + 1) = 35; omega) (by omega) (by omega) (by omega) (by omega)⟩)⟩⟩⟩, hS.F ht⟩) hS.2.2 dX12_readAt_425
                              · have tc_64 : ¬ x.toInt = 38 := v_ne c_64
                                refine lv_iload hx hb dX12_readAt_396 (lv_at hl 0 rfl) ?_
                                refine lv_bipush (v := 127) hx hb dX12_readAt_398 (by decide) ?_
                                refine lv_icmp_le (tgt := 407) hx hb dX12_readAt_400 (by decide) (fun c_68 => ?_) (fun c_68 => ?_)
                                · have tc_68 : x.toInt ≤ 127 := v_le c_68
                                  refine lv_iconst (v := 0) hx hb dX12_readAt_407 (by decide) ?_
                                  refine lv_istore (lv' := [(6, .int 0), (5, .int x), (4, .int qq), (3, .int x_1), (0, .ref oM), (1, .int cd), (2, .int q)]) hx hb dX12_readAt_408 hl (by decide) rfl (fun ls hl => ?_)
                                  refine lv_iload hx hb dX12_readAt_410 (lv_at hl 0 rfl) ?_
                                  refine lv_if_eq (tgt := 424) hx hb dX12_readAt_412 (by decide) (fun c_69 => ?_) (fun c_69 => absurd c_69 (by decide))
                                  refine lv_iconst (v := 0) hx hb dX12_readAt_424 (by decide) ?_
                                  have hP9 := hP.sub (ws' := [(oM, .inr (12, [.ref mT, .int zt, .ref mS, .ref mX, .int zp, .int zf, .ref mL, .ref mB, .ref mD, .ref m1, .ref m2, .int zh, .ref mR, .int zr, .ref x1, .ref x2, .ref x3, .int zc, .ref mH, .int zy, .int za, .int zb, .int zs, .int zq, .int zw, .int ze, .ref mY, .int zn, .ref mE, .int zm, .int zl, .ref mW, .int zk, .ref mO, .int x, .ref y1, .ref y2, .ref y3, .ref y4, .ref mZ])), (mY, .inl (cI, 2600, .inl eY)), (mL, .inl (cI, 512, .inl eL))]) [1, 2, 0] rfl
                                  have hD9 := hD.sub (ws' := [(oM, .inr (12, [.ref mT, .int zt, .ref mS, .ref mX, .int zp, .int zf, .ref mL, .ref mB, .ref mD, .ref m1, .ref m2, .int zh, .ref mR, .int zr, .ref x1, .ref x2, .ref x3, .int zc, .ref mH, .int zy, .int za, .int zb, .int zs, .int zq, .int zw, .int ze, .ref mY, .int zn, .ref mE, .int zm, .int zl, .ref mW, .int zk, .ref mO, .int x, .ref y1, .ref y2, .ref y3, .ref y4, .ref mZ])), (mY, .inl (cI, 2600, .inl eY)), (mL, .inl (cI, 512, .inl eL))]) [1, 2, 0] (by decide +kernel) rfl
                                  rw [hQQ]
                                  exact W.iret (v := 0) hx hb hr (fun t ht hW => ⟨⟨0, 0, rfl, rfl, ⟨x, by rw [ht]; exact hP9, hD9, by decide, by show 0 = 0 ∨ (0 ≤ x.toInt ∧ x.toInt ≤ 65535); omega, Or.inr ⟨rfl, Dec_no (by rw [← ex_1]; first | (unfold alF; (repeat (first | rw [if_pos (by omega)] | rw [if_neg (by omega)])); done) | (exfalso; omega)) (fun e9 l9 x9 h9 => by unfold DMa DM at h9; omega) (fun _ => by first | exact NJ_no (B := bo eY zn.toInt q.toNatClampNeg) hnj hb58 (by omega) | exact NJ_no0 (B := bo eY zn.toInt q.toNatClampNeg) hnj (by omega) (by omega))⟩⟩⟩, hS.F ht⟩) hS.2.2 dX12_readAt_425
                                · have tc_68 : 127 < x.toInt := v_nle c_68
                                  refine lv_iconst (v := 1) hx hb dX12_readAt_403 (by decide) ?_
                                  refine lv_goto (tgt := 408) hx hb dX12_readAt_404 (by decide) ?_
                                  refine lv_istore (lv' := [(6, .int 1), (5, .int x), (4, .int qq), (3, .int x_1), (0, .ref oM), (1, .int cd), (2, .int q)]) hx hb dX12_readAt_408 hl (by decide) rfl (fun ls hl => ?_)
                                  refine lv_iload hx hb dX12_readAt_410 (lv_at hl 0 rfl) ?_
                                  refine lv_if_eq (tgt := 424) hx hb dX12_readAt_412 (by decide) (fun c_70 => absurd c_70 (by decide)) (fun c_70 => ?_)
                                  refine lv_iload hx hb dX12_readAt_415 (lv_at hl 2 rfl) ?_
                                  refine lv_iload_n hx hb dX12_readAt_417 rfl (lv_at hl 6 rfl) ?_
                                  refine lv_isub hx hb dX12_readAt_418 ?_
                                  refine lv_topi (fun x_71 ex_71 => ?_)
                                  have tx_71 : x_71.toInt = qq.toInt - q.toInt := v_sub ex_71 (by show -2147483648 ≤ qq.toInt - q.toInt; omega) (by show qq.toInt - q.toInt < 2147483648; omega)
                                  refine lv_iconst (v := 1) hx hb dX12_readAt_419 (by decide) ?_
                                  refine lv_iadd hx hb dX12_readAt_420 ?_
                                  refine lv_topi (fun x_72 ex_72 => ?_)
                                  have tx_72 : x_72.toInt = x_71.toInt + 1 := v_add ex_72 (by show -2147483648 ≤ x_71.toInt + 1; omega) (by show x_71.toInt + 1 < 2147483648; omega)
                                  refine lv_goto (tgt := 425) hx hb dX12_readAt_421 (by decide) ?_
                                  have hP9 := hP.sub (ws' := [(oM, .inr (12, [.ref mT, .int zt, .ref mS, .ref mX, .int zp, .int zf, .ref mL, .ref mB, .ref mD, .ref m1, .ref m2, .int zh, .ref mR, .int zr, .ref x1, .ref x2, .ref x3, .int zc, .ref mH, .int zy, .int za, .int zb, .int zs, .int zq, .int zw, .int ze, .ref mY, .int zn, .ref mE, .int zm, .int zl, .ref mW, .int zk, .ref mO, .int x, .ref y1, .ref y2, .ref y3, .ref y4, .ref mZ])), (mY, .inl (cI, 2600, .inl eY)), (mL, .inl (cI, 512, .inl eL))]) [1, 2, 0] rfl
                                  have hD9 := hD.sub (ws' := [(oM, .inr (12, [.ref mT, .int zt, .ref mS, .ref mX, .int zp, .int zf, .ref mL, .ref mB, .ref mD, .ref m1, .ref m2, .int zh, .ref mR, .int zr, .ref x1, .ref x2, .ref x3, .int zc, .ref mH, .int zy, .int za, .int zb, .int zs, .int zq, .int zw, .int ze, .ref mY, .int zn, .ref mE, .int zm, .int zl, .ref mW, .int zk, .ref mO, .int x, .ref y1, .ref y2, .ref y3, .ref y4, .ref mZ])), (mY, .inl (cI, 2600, .inl eY)), (mL, .inl (cI, 512, .inl eL))]) [1, 2, 0] (by decide +kernel) rfl
                                  rw [hQQ]
                                  exact W.iret (v := x_72) hx hb hr (fun t ht hW => ⟨⟨x_72, x_72, rfl, rfl, ⟨x, by rw [ht]; exact hP9, hD9, by omega, by show x_72.toInt = 0 ∨ (0 ≤ x.toInt ∧ x.toInt ≤ 65535); omega, Or.inl ⟨(qq.toInt - q.toInt - 2).toNat + 3, by omega, by omega, Or.inr (Or.inr ⟨by omega, NJ_of (B := bo eY zn.toInt q.toNatClampNeg) hnj (by rw [← hb58]; omega) (by show bt eY zn.toInt q.toNatClampNeg = 38; omega) (by show bt eY zn.toInt (q.toNatClampNeg + 1) = 35; omega) (by omega) (by omega) (by omega) (by omega)⟩)⟩⟩⟩, hS.F ht⟩) hS.2.2 dX12_readAt_425
                      · have tc_54 : x_53.toInt < 8 := v_nle c_54
                        refine lv_iload hx hb dX12_readAt_317 (lv_at hl 0 rfl) ?_
                        refine lv_if_ne (tgt := 332) hx hb dX12_readAt_319 (by decide) (fun c_73 => ?_) (fun c_73 => ?_)
                        · have tc_73 : ¬ x.toInt = 0 := v_ne c_73
                          refine lv_bipush (v := 10) hx hb dX12_readAt_332 (by decide) ?_
                          refine lv_iload hx hb dX12_readAt_334 (lv_at hl 0 rfl) ?_
                          refine lv_imul hx hb dX12_readAt_336 ?_
                          refine lv_topi (fun x_74 ex_74 => ?_)
                          have tx_74 : x_74.toInt = 10 * x.toInt := v_mul ex_74 (by show -2147483648 ≤ 10 * x.toInt; omega) (by show 10 * x.toInt < 2147483648; omega)
                          refine lv_aload_n hx hb dX12_readAt_337 rfl (lv_at hl 3 rfl) ?_
                          refine va_get (D := (dC, dI)) (ci := 12) (v := .ref mY) (C := RX12) (T := TX12) (N := 40) hx hb hts in_X12 hown hK hP 1 rfl rfl 26 (by decide) (hts (.fieldLink RX12 58 "TextMenderModel" "bytes" "[I") (List.mem_of_getElem? (i := 1) rfl)) (fun _ h9 => h9) rfl dX12_readAt_338 ?_
                          refine lv_iload hx hb dX12_readAt_341 (lv_at hl 1 rfl) ?_
                          refine va_iald hx hb hK hP 2 0 rfl rfl (v_in (by omega)) dX12_readAt_343 ?_
                          refine lv_topi (fun x_75 ex_75 => ?_)
                          have tx_75 : 0 ≤ x_75.toInt ∧ x_75.toInt ≤ 255 := rg_at g_eY ex_75
                          have hbx_x_75 : x_75.toInt = bo eY zn.toInt q.toNatClampNeg (2 + (qq.toInt - q.toInt - 2).toNat) := rd_bt (k := q.toNatClampNeg + (2 + (qq.toInt - q.toInt - 2).toNat)) ex_75 (by omega) (by omega)
                          refine lv_iadd hx hb dX12_readAt_344 ?_
                          refine lv_topi (fun x_76 ex_76 => ?_)
                          have tx_76 : x_76.toInt = x_74.toInt + x_75.toInt := v_add ex_76 (by show -2147483648 ≤ x_74.toInt + x_75.toInt; omega) (by show x_74.toInt + x_75.toInt < 2147483648; omega)
                          refine lv_bipush (v := 48) hx hb dX12_readAt_345 (by decide) ?_
                          refine lv_isub hx hb dX12_readAt_347 ?_
                          refine lv_topi (fun x_77 ex_77 => ?_)
                          have tx_77 : x_77.toInt = x_76.toInt - 48 := v_sub ex_77 (by show -2147483648 ≤ x_76.toInt - 48; omega) (by show x_76.toInt - 48 < 2147483648; omega)
                          refine lv_istore (lv' := [(5, .int x_77), (4, .int qq), (3, .int x_1), (0, .ref oM), (1, .int cd), (2, .int q)]) hx hb dX12_readAt_348 hl (by decide) rfl (fun ls hl => ?_)
                          obtain ⟨x_78, ex_78⟩ : ∃ y : Int32, y = qq + 1 := ⟨_, rfl⟩
                          have tx_78 : x_78.toInt = qq.toInt + 1 := v_add ex_78 (by show -2147483648 ≤ qq.toInt + 1; omega) (by show qq.toInt + 1 < 2147483648; omega)
                          refine lv_iinc (v := x_78) (lv' := [(4, .int x_78), (5, .int x_77), (3, .int x_1), (0, .ref oM), (1, .int cd), (2, .int q)]) hx hb dX12_readAt_350 hl (k := 1) rfl (by rw [ex_78]; rfl) (by decide) rfl (fun ls hl => ?_)
                          refine lv_goto (tgt := 286) hx hb dX12_readAt_353 (by decide) ?_
                          exact ih_286 x_78 x_77 _ _ _ (ms_lt hm_286 (by show ((q.toInt + 8 - x_78.toInt : Int)) < q.toInt + 8 - qq.toInt; omega) (by show (0 : Int) < q.toInt + 8 - qq.toInt; omega)) (by show 2 ≤ x_78.toInt ∧ x_78.toInt ≤ 2608; omega) (by show 0 ≤ x_77.toInt ∧ x_77.toInt ≤ 999999; omega) (by show q.toInt + 2 ≤ x_78.toInt ∧ x_78.toInt ≤ q.toInt + 8; omega) (NJ_s hnj hbx_x_75 (by omega) (by omega) (by omega) (by omega) (by omega)) hP hD hS (lv_sub hl [1, 0, 2, 3, 4, 5] rfl)
                        · have tc_73 : x.toInt = 0 := v_eq c_73
                          refine lv_iload hx hb dX12_readAt_322 (lv_at hl 1 rfl) ?_
                          refine lv_iload_n hx hb dX12_readAt_324 rfl (lv_at hl 5 rfl) ?_
                          refine lv_iconst (v := 2) hx hb dX12_readAt_325 (by decide) ?_
                          refine lv_iadd hx hb dX12_readAt_326 ?_
                          refine lv_topi (fun x_79 ex_79 => ?_)
                          have tx_79 : x_79.toInt = q.toInt + 2 := v_add ex_79 (by show -2147483648 ≤ q.toInt + 2; omega) (by show q.toInt + 2 < 2147483648; omega)
                          refine lv_icmp_le (tgt := 332) hx hb dX12_readAt_327 (by decide) (fun c_80 => ?_) (fun c_80 => ?_)
                          · have tc_80 : qq.toInt ≤ x_79.toInt := v_le c_80
                            refine lv_bipush (v := 10) hx hb dX12_readAt_332 (by decide) ?_
                            refine lv_iload hx hb dX12_readAt_334 (lv_at hl 0 rfl) ?_
                            refine lv_imul hx hb dX12_readAt_336 ?_
                            refine lv_topi (fun x_81 ex_81 => ?_)
                            have tx_81 : x_81.toInt = 10 * x.toInt := v_mul ex_81 (by show -2147483648 ≤ 10 * x.toInt; omega) (by show 10 * x.toInt < 2147483648; omega)
                            refine lv_aload_n hx hb dX12_readAt_337 rfl (lv_at hl 3 rfl) ?_
                            refine va_get (D := (dC, dI)) (ci := 12) (v := .ref mY) (C := RX12) (T := TX12) (N := 40) hx hb hts in_X12 hown hK hP 1 rfl rfl 26 (by decide) (hts (.fieldLink RX12 58 "TextMenderModel" "bytes" "[I") (List.mem_of_getElem? (i := 1) rfl)) (fun _ h9 => h9) rfl dX12_readAt_338 ?_
                            refine lv_iload hx hb dX12_readAt_341 (lv_at hl 1 rfl) ?_
                            refine va_iald hx hb hK hP 2 0 rfl rfl (v_in (by omega)) dX12_readAt_343 ?_
                            refine lv_topi (fun x_82 ex_82 => ?_)
                            have tx_82 : 0 ≤ x_82.toInt ∧ x_82.toInt ≤ 255 := rg_at g_eY ex_82
                            have hbx_x_82 : x_82.toInt = bo eY zn.toInt q.toNatClampNeg (2 + (qq.toInt - q.toInt - 2).toNat) := rd_bt (k := q.toNatClampNeg + (2 + (qq.toInt - q.toInt - 2).toNat)) ex_82 (by omega) (by omega)
                            refine lv_iadd hx hb dX12_readAt_344 ?_
                            refine lv_topi (fun x_83 ex_83 => ?_)
                            have tx_83 : x_83.toInt = x_81.toInt + x_82.toInt := v_add ex_83 (by show -2147483648 ≤ x_81.toInt + x_82.toInt; omega) (by show x_81.toInt + x_82.toInt < 2147483648; omega)
                            refine lv_bipush (v := 48) hx hb dX12_readAt_345 (by decide) ?_
                            refine lv_isub hx hb dX12_readAt_347 ?_
                            refine lv_topi (fun x_84 ex_84 => ?_)
                            have tx_84 : x_84.toInt = x_83.toInt - 48 := v_sub ex_84 (by show -2147483648 ≤ x_83.toInt - 48; omega) (by show x_83.toInt - 48 < 2147483648; omega)
                            refine lv_istore (lv' := [(5, .int x_84), (4, .int qq), (3, .int x_1), (0, .ref oM), (1, .int cd), (2, .int q)]) hx hb dX12_readAt_348 hl (by decide) rfl (fun ls hl => ?_)
                            obtain ⟨x_85, ex_85⟩ : ∃ y : Int32, y = qq + 1 := ⟨_, rfl⟩
                            have tx_85 : x_85.toInt = qq.toInt + 1 := v_add ex_85 (by show -2147483648 ≤ qq.toInt + 1; omega) (by show qq.toInt + 1 < 2147483648; omega)
                            refine lv_iinc (v := x_85) (lv' := [(4, .int x_85), (5, .int x_84), (3, .int x_1), (0, .ref oM), (1, .int cd), (2, .int q)]) hx hb dX12_readAt_350 hl (k := 1) rfl (by rw [ex_85]; rfl) (by decide) rfl (fun ls hl => ?_)
                            refine lv_goto (tgt := 286) hx hb dX12_readAt_353 (by decide) ?_
                            exact ih_286 x_85 x_84 _ _ _ (ms_lt hm_286 (by show ((q.toInt + 8 - x_85.toInt : Int)) < q.toInt + 8 - qq.toInt; omega) (by show (0 : Int) < q.toInt + 8 - qq.toInt; omega)) (by show 2 ≤ x_85.toInt ∧ x_85.toInt ≤ 2608; omega) (by show 0 ≤ x_84.toInt ∧ x_84.toInt ≤ 999999; omega) (by show q.toInt + 2 ≤ x_85.toInt ∧ x_85.toInt ≤ q.toInt + 8; omega) (NJ_s hnj hbx_x_82 (by omega) (by omega) (by omega) (by omega) (by omega)) hP hD hS (lv_sub hl [1, 0, 2, 3, 4, 5] rfl)
                          · have tc_80 : x_79.toInt < qq.toInt := v_nle c_80
                            refine lv_iconst (v := 0) hx hb dX12_readAt_330 (by decide) ?_
                            have hP9 := hP.sub (ws' := [(oM, .inr (12, [.ref mT, .int zt, .ref mS, .ref mX, .int zp, .int zf, .ref mL, .ref mB, .ref mD, .ref m1, .ref m2, .int zh, .ref mR, .int zr, .ref x1, .ref x2, .ref x3, .int zc, .ref mH, .int zy, .int za, .int zb, .int zs, .int zq, .int zw, .int ze, .ref mY, .int zn, .ref mE, .int zm, .int zl, .ref mW, .int zk, .ref mO, .int x_1, .ref y1, .ref y2, .ref y3, .ref y4, .ref mZ])), (mY, .inl (cI, 2600, .inl eY)), (mL, .inl (cI, 512, .inl eL))]) [1, 2, 0] rfl
                            have hD9 := hD.sub (ws' := [(oM, .inr (12, [.ref mT, .int zt, .ref mS, .ref mX, .int zp, .int zf, .ref mL, .ref mB, .ref mD, .ref m1, .ref m2, .int zh, .ref mR, .int zr, .ref x1, .ref x2, .ref x3, .int zc, .ref mH, .int zy, .int za, .int zb, .int zs, .int zq, .int zw, .int ze, .ref mY, .int zn, .ref mE, .int zm, .int zl, .ref mW, .int zk, .ref mO, .int x_1, .ref y1, .ref y2, .ref y3, .ref y4, .ref mZ])), (mY, .inl (cI, 2600, .inl eY)), (mL, .inl (cI, 512, .inl eL))]) [1, 2, 0] (by decide +kernel) rfl
                            rw [hQQ]
                            exact W.iret (v := 0) hx hb hr (fun t ht hW => ⟨⟨0, 0, rfl, rfl, ⟨x_1, by rw [ht]; exact hP9, hD9, by decide, by show 0 = 0 ∨ (0 ≤ x_1.toInt ∧ x_1.toInt ≤ 65535); omega, Or.inr ⟨rfl, Dec_no (by rw [← ex_1]; first | (unfold alF; (repeat (first | rw [if_pos (by omega)] | rw [if_neg (by omega)])); done) | (exfalso; omega)) (fun e9 l9 x9 h9 => by unfold DMa DM at h9; omega) (fun _ => by first | exact NJ_no (B := bo eY zn.toInt q.toNatClampNeg) hnj hb33 (by omega) | exact NJ_no0 (B := bo eY zn.toInt q.toNatClampNeg) hnj (by omega) (by omega))⟩⟩⟩, hS.F ht⟩) hS.2.2 dX12_readAt_331
              exact LOOP_286 _ x_12 0 _ _ _ (ms_s _) (by show 2 ≤ x_12.toInt ∧ x_12.toInt ≤ 2608; omega) (by decide) (by show q.toInt + 2 ≤ x_12.toInt ∧ x_12.toInt ≤ q.toInt + 8; omega) (Or.inl (NI_0 (by omega) rfl)) hP hD hS (lv_sub hl [0, 1, 2, 3, 4, 5] rfl)
            · have tc_11 : ¬ r_10.toInt = 35 := v_ne c_11
              refine lv_iconst (v := 0) hx hb dX12_readAt_276 (by decide) ?_
              have hP9 := hP.sub (ws' := [(oM, .inr (12, [.ref mT, .int zt, .ref mS, .ref mX, .int zp, .int zf, .ref mL, .ref mB, .ref mD, .ref m1, .ref m2, .int zh, .ref mR, .int zr, .ref x1, .ref x2, .ref x3, .int zc, .ref mH, .int zy, .int za, .int zb, .int zs, .int zq, .int zw, .int ze, .ref mY, .int zn, .ref mE, .int zm, .int zl, .ref mW, .int zk, .ref mO, .int x_1, .ref y1, .ref y2, .ref y3, .ref y4, .ref mZ])), (mY, .inl (cI, 2600, .inl eY)), (mL, .inl (cI, 512, .inl eL))]) [1, 2, 0] rfl
              have hD9 := hD.sub (ws' := [(oM, .inr (12, [.ref mT, .int zt, .ref mS, .ref mX, .int zp, .int zf, .ref mL, .ref mB, .ref mD, .ref m1, .ref m2, .int zh, .ref mR, .int zr, .ref x1, .ref x2, .ref x3, .int zc, .ref mH, .int zy, .int za, .int zb, .int zs, .int zq, .int zw, .int ze, .ref mY, .int zn, .ref mE, .int zm, .int zl, .ref mW, .int zk, .ref mO, .int x_1, .ref y1, .ref y2, .ref y3, .ref y4, .ref mZ])), (mY, .inl (cI, 2600, .inl eY)), (mL, .inl (cI, 512, .inl eL))]) [1, 2, 0] (by decide +kernel) rfl
              rw [hQQ]
              exact W.iret (v := 0) hx hb hr (fun t ht hW => ⟨⟨0, 0, rfl, rfl, ⟨x_1, by rw [ht]; exact hP9, hD9, by decide, by show 0 = 0 ∨ (0 ≤ x_1.toInt ∧ x_1.toInt ≤ 65535); omega, Or.inr ⟨rfl, Dec_no (by rw [← ex_1]; first | (unfold alF; (repeat (first | rw [if_pos (by omega)] | rw [if_neg (by omega)])); done) | (exfalso; omega)) (fun e9 l9 x9 h9 => by unfold DMa DM at h9; omega) (fun e9 l9 x9 h9 => by unfold DNa DN at h9; omega)⟩⟩⟩, hS.F ht⟩) hS.2.2 dX12_readAt_277
          · have tc_7 : ¬ x_1.toInt = 38 := v_ne c_7
            refine lv_iconst (v := 1) hx hb dX12_readAt_107 (by decide) ?_
            have hP9 := hP.sub (ws' := [(oM, .inr (12, [.ref mT, .int zt, .ref mS, .ref mX, .int zp, .int zf, .ref mL, .ref mB, .ref mD, .ref m1, .ref m2, .int zh, .ref mR, .int zr, .ref x1, .ref x2, .ref x3, .int zc, .ref mH, .int zy, .int za, .int zb, .int zs, .int zq, .int zw, .int ze, .ref mY, .int zn, .ref mE, .int zm, .int zl, .ref mW, .int zk, .ref mO, .int x_1, .ref y1, .ref y2, .ref y3, .ref y4, .ref mZ])), (mY, .inl (cI, 2600, .inl eY)), (mL, .inl (cI, 512, .inl eL))]) [0, 1, 2] rfl
            have hD9 := hD.sub (ws' := [(oM, .inr (12, [.ref mT, .int zt, .ref mS, .ref mX, .int zp, .int zf, .ref mL, .ref mB, .ref mD, .ref m1, .ref m2, .int zh, .ref mR, .int zr, .ref x1, .ref x2, .ref x3, .int zc, .ref mH, .int zy, .int za, .int zb, .int zs, .int zq, .int zw, .int ze, .ref mY, .int zn, .ref mE, .int zm, .int zl, .ref mW, .int zk, .ref mO, .int x_1, .ref y1, .ref y2, .ref y3, .ref y4, .ref mZ])), (mY, .inl (cI, 2600, .inl eY)), (mL, .inl (cI, 512, .inl eL))]) [0, 1, 2] (by decide +kernel) rfl
            rw [hQQ]
            exact W.iret (v := 1) hx hb hr (fun t ht hW => ⟨⟨1, 1, rfl, rfl, ⟨x_1, by rw [ht]; exact hP9, hD9, by decide, by show 1 = 0 ∨ (0 ≤ x_1.toInt ∧ x_1.toInt ≤ 65535); omega, Or.inl ⟨1, rfl, by omega, Or.inl ⟨rfl, (by rw [← ex_1]; first | (unfold alF; (repeat (first | rw [if_pos (by omega)] | rw [if_neg (by omega)])); done) | (exfalso; omega)), v_nn (by omega)⟩⟩⟩⟩, hS.F ht⟩) hS.2.2 dX12_readAt_108
      · have tc_4 : 127 < x_1.toInt := v_nle c_4
        refine lv_iload_n hx hb dX12_readAt_82 rfl (lv_at hl 2 rfl) ?_
        refine lv_iconst (v := 3) hx hb dX12_readAt_83 (by decide) ?_
        refine lv_icmp_ne (tgt := 89) hx hb dX12_readAt_84 (by decide) (fun c_86 => ?_) (fun c_86 => ?_)
        · have tc_86 : ¬ cd.toInt = 3 := v_ne c_86
          refine lv_iload_n hx hb dX12_readAt_89 rfl (lv_at hl 0 rfl) ?_
          refine lv_sipush (v := 128) hx hb dX12_readAt_90 (by decide) ?_
          refine lv_icmp_ge (tgt := 109) hx hb dX12_readAt_93 (by decide) (fun c_87 => ?_) (fun c_87 => by exfalso; have tc_87 : x_1.toInt < 128 := v_nle c_87; omega)
          have tc_87 : 128 ≤ x_1.toInt := v_le c_87
          refine lv_iload_n hx hb dX12_readAt_109 rfl (lv_at hl 2 rfl) ?_
          refine lv_iconst (v := 2) hx hb dX12_readAt_110 (by decide) ?_
          refine lv_icmp_ne (tgt := 264) hx hb dX12_readAt_111 (by decide) (fun c_88 => by exfalso; have tc_88 : ¬ cd.toInt = 2 := v_ne c_88; omega) (fun c_88 => ?_)
          have tc_88 : cd.toInt = 2 := v_eq c_88
          refine lv_aload_n hx hb dX12_readAt_114 rfl (lv_at hl 1 rfl) ?_
          refine lv_iload_n hx hb dX12_readAt_115 rfl (lv_at hl 3 rfl) ?_
          refine lv_iconst (v := 1) hx hb dX12_readAt_116 (by decide) ?_
          refine lv_iadd hx hb dX12_readAt_117 ?_
          refine lv_topi (fun x_89 ex_89 => ?_)
          have tx_89 : x_89.toInt = q.toInt + 1 := v_add ex_89 (by show -2147483648 ≤ q.toInt + 1; omega) (by show q.toInt + 1 < 2147483648; omega)
          have hPc := hP.sub (ws' := [(oM, .inr (12, [.ref mT, .int zt, .ref mS, .ref mX, .int zp, .int zf, .ref mL, .ref mB, .ref mD, .ref m1, .ref m2, .int zh, .ref mR, .int zr, .ref x1, .ref x2, .ref x3, .int zc, .ref mH, .int zy, .int za, .int zb, .int zs, .int zq, .int zw, .int ze, .ref mY, .int zn, .ref mE, .int zm, .int zl, .ref mW, .int zk, .ref mO, .int x_1, .ref y1, .ref y2, .ref y3, .ref y4, .ref mZ])), (mY, .inl (cI, 2600, .inl eY))]) [0, 1] rfl
          have hDc := hD.sub (ws' := [(oM, .inr (12, [.ref mT, .int zt, .ref mS, .ref mX, .int zp, .int zf, .ref mL, .ref mB, .ref mD, .ref m1, .ref m2, .int zh, .ref mR, .int zr, .ref x1, .ref x2, .ref x3, .int zc, .ref mH, .int zy, .int za, .int zb, .int zs, .int zq, .int zw, .int ze, .ref mY, .int zn, .ref mE, .int zm, .int zl, .ref mW, .int zk, .ref mO, .int x_1, .ref y1, .ref y2, .ref y3, .ref y4, .ref mZ])), (mY, .inl (cI, 2600, .inl eY))]) [0, 1] (by decide +kernel) rfl
          have hFc := va_free (wc := [(oM, .inr (12, [.ref mT, .int zt, .ref mS, .ref mX, .int zp, .int zf, .ref mL, .ref mB, .ref mD, .ref m1, .ref m2, .int zh, .ref mR, .int zr, .ref x1, .ref x2, .ref x3, .int zc, .ref mH, .int zy, .int za, .int zb, .int zs, .int zq, .int zw, .int ze, .ref mY, .int zn, .ref mE, .int zm, .int zl, .ref mW, .int zk, .ref mO, .int x_1, .ref y1, .ref y2, .ref y3, .ref y4, .ref mZ])), (mY, .inl (cI, 2600, .inl eY))]) hD hS hA [0, 1] rfl
          refine va_calli (va_runV (As := [.int x_89]) (rest := []) ⟨hx, hb, hml, hown, hts⟩ (f_X12_byteAt l dC dI cI cS H.size oM mT mS mX mL mB mD m1 m2 mR x1 x2 x3 mH mY mE mW mO y1 y2 y3 y4 mZ zt zp zf zh zr zc zy za zb zs zq zw ze zn zm zl zk x_1 eY x_89 (g_zt) (g_zp) (g_zf) (g_zh) (g_zr) (g_zc) (g_zy) (g_za) (g_zb) (g_zs) (g_zq) (g_zn) (g_zm) (g_zk) (g_eY) (by omega)) (cwV 1 hts gX12_readAt_X12_byteAt rfl rfl rfl (by decide +kernel) ⟨Nat.le_of_ble_eq_true rfl, Nat.le_of_ble_eq_true rfl⟩) ⟨fun a U g mk q => by obtain ⟨q0, q1, qP, qK, qD⟩ := q; exact ⟨q0, q1, qP, va_K.moved (u := U) (U := U.calling g mk a) (Vm.Alike.refl U.vm) qK, qD⟩, va_recv hK hPc (ci := 12) (q0 := 0) rfl rfl, fun U hU hW => ⟨rfl, by rw [hU], by rw [hU]; exact hPc, va_K.moved hW.alike hK, hDc.weaken (fun _ _ _ _ => trivial)⟩⟩ rfl rfl hl.1 rfl (lv_room (Nat.le_of_ble_eq_true rfl)) dX12_readAt_118 ⟨Nat.le_of_ble_eq_true rfl, Nat.le_of_ble_eq_true rfl⟩) hS (fun q _ h => hFc q h) hFc (fun r_90 u t H1 locs ht hvm hw hB hz1 hk1 hSn => ?_)
          subst hw
          obtain ⟨hP1, hD1, hf90_0, hf90_1, hf90_2⟩ := hB
          rw [ht] at hP1
          obtain ⟨hPn, hDn⟩ := va_join (wr := [(mL, .inl (cI, 512, .inl eL))]) (w1 := [(oM, .inr (12, [.ref mT, .int zt, .ref mS, .ref mX, .int zp, .int zf, .ref mL, .ref mB, .ref mD, .ref m1, .ref m2, .int zh, .ref mR, .int zr, .ref x1, .ref x2, .ref x3, .int zc, .ref mH, .int zy, .int za, .int zb, .int zs, .int zq, .int zw, .int ze, .ref mY, .int zn, .ref mE, .int zm, .int zl, .ref mW, .int zk, .ref mO, .int x_1, .ref y1, .ref y2, .ref y3, .ref y4, .ref mZ])), (mY, .inl (cI, 2600, .inl eY))]) hP hD [0, 1] [2] rfl rfl (by decide +kernel) (by decide +kernel) hk1 hFc hP1 hD1
          clear hP hD hS hPc hDc hFc hk1 hz1 hvm ht hP1 hD1
          generalize H1 = H at hPn hSn ⊢
          have hP : va_P (dC, dI) vwCl [(mL, .inl (cI, 512, .inl eL)), (oM, .inr (12, [.ref mT, .int zt, .ref mS, .ref mX, .int zp, .int zf, .ref mL, .ref mB, .ref mD, .ref m1, .ref m2, .int zh, .ref mR, .int zr, .ref x1, .ref x2, .ref x3, .int zc, .ref mH, .int zy, .int za, .int zb, .int zs, .int zq, .int zw, .int ze, .ref mY, .int zn, .ref mE, .int zm, .int zl, .ref mW, .int zk, .ref mO, .int x_1, .ref y1, .ref y2, .ref y3, .ref y4, .ref mZ])), (mY, .inl (cI, 2600, .inl eY))] H := hPn
          have hD : va_D A [(mL, .inl (cI, 512, .inl eL)), (oM, .inr (12, [.ref mT, .int zt, .ref mS, .ref mX, .int zp, .int zf, .ref mL, .ref mB, .ref mD, .ref m1, .ref m2, .int zh, .ref mR, .int zr, .ref x1, .ref x2, .ref x3, .int zc, .ref mH, .int zy, .int za, .int zb, .int zs, .int zq, .int zw, .int ze, .ref mY, .int zn, .ref mE, .int zm, .int zl, .ref mW, .int zk, .ref mO, .int x_1, .ref y1, .ref y2, .ref y3, .ref y4, .ref mZ])), (mY, .inl (cI, 2600, .inl eY))] := hDn
          have hS := hSn
          clear hPn hDn hSn
          have hb90 : r_90.toInt = bt eY zn.toInt (q.toNatClampNeg + 1) := bt_ix (k := q.toNatClampNeg + 1) hf90_2 (by omega)
          refine lv_istore (lv' := [(4, .int r_90), (3, .int x_1), (0, .ref oM), (1, .int cd), (2, .int q)]) hx hb dX12_readAt_121 hl (by decide) rfl (fun ls hl => ?_)
          refine lv_iload_n hx hb dX12_readAt_123 rfl (lv_at hl 1 rfl) ?_
          refine lv_sipush (v := 192) hx hb dX12_readAt_124 (by decide) ?_
          refine lv_icmp_lt (tgt := 145) hx hb dX12_readAt_127 (by decide) (fun c_91 => ?_) (fun c_91 => ?_)
          · have tc_91 : x_1.toInt < 192 := v_lt c_91
            refine lv_iconst (v := 0) hx hb dX12_readAt_145 (by decide) ?_
            have hP9 := hP.sub (ws' := [(oM, .inr (12, [.ref mT, .int zt, .ref mS, .ref mX, .int zp, .int zf, .ref mL, .ref mB, .ref mD, .ref m1, .ref m2, .int zh, .ref mR, .int zr, .ref x1, .ref x2, .ref x3, .int zc, .ref mH, .int zy, .int za, .int zb, .int zs, .int zq, .int zw, .int ze, .ref mY, .int zn, .ref mE, .int zm, .int zl, .ref mW, .int zk, .ref mO, .int x_1, .ref y1, .ref y2, .ref y3, .ref y4, .ref mZ])), (mY, .inl (cI, 2600, .inl eY)), (mL, .inl (cI, 512, .inl eL))]) [1, 2, 0] rfl
            have hD9 := hD.sub (ws' := [(oM, .inr (12, [.ref mT, .int zt, .ref mS, .ref mX, .int zp, .int zf, .ref mL, .ref mB, .ref mD, .ref m1, .ref m2, .int zh, .ref mR, .int zr, .ref x1, .ref x2, .ref x3, .int zc, .ref mH, .int zy, .int za, .int zb, .int zs, .int zq, .int zw, .int ze, .ref mY, .int zn, .ref mE, .int zm, .int zl, .ref mW, .int zk, .ref mO, .int x_1, .ref y1, .ref y2, .ref y3, .ref y4, .ref mZ])), (mY, .inl (cI, 2600, .inl eY)), (mL, .inl (cI, 512, .inl eL))]) [1, 2, 0] (by decide +kernel) rfl
            rw [hQQ]
            exact W.iret (v := 0) hx hb hr (fun t ht hW => ⟨⟨0, 0, rfl, rfl, ⟨x_1, by rw [ht]; exact hP9, hD9, by decide, by show 0 = 0 ∨ (0 ≤ x_1.toInt ∧ x_1.toInt ≤ 65535); omega, Or.inr ⟨rfl, Dec_no (by rw [← ex_1]; first | (unfold alF; (repeat (first | rw [if_pos (by omega)] | rw [if_neg (by omega)])); done) | (exfalso; omega)) (fun e9 l9 x9 h9 => by unfold DMa DM at h9; omega) (fun e9 l9 x9 h9 => by unfold DNa DN at h9; omega)⟩⟩⟩, hS.F ht⟩) hS.2.2 dX12_readAt_146
          · have tc_91 : 192 ≤ x_1.toInt := v_nlt c_91
            refine lv_iload_n hx hb dX12_readAt_130 rfl (lv_at hl 1 rfl) ?_
            refine lv_sipush (v := 239) hx hb dX12_readAt_131 (by decide) ?_
            refine lv_icmp_gt (tgt := 145) hx hb dX12_readAt_134 (by decide) (fun c_92 => ?_) (fun c_92 => ?_)
            · have tc_92 : 239 < x_1.toInt := v_lt c_92
              refine lv_iconst (v := 0) hx hb dX12_readAt_145 (by decide) ?_
              have hP9 := hP.sub (ws' := [(oM, .inr (12, [.ref mT, .int zt, .ref mS, .ref mX, .int zp, .int zf, .ref mL, .ref mB, .ref mD, .ref m1, .ref m2, .int zh, .ref mR, .int zr, .ref x1, .ref x2, .ref x3, .int zc, .ref mH, .int zy, .int za, .int zb, .int zs, .int zq, .int zw, .int ze, .ref mY, .int zn, .ref mE, .int zm, .int zl, .ref mW, .int zk, .ref mO, .int x_1, .ref y1, .ref y2, .ref y3, .ref y4, .ref mZ])), (mY, .inl (cI, 2600, .inl eY)), (mL, .inl (cI, 512, .inl eL))]) [1, 2, 0] rfl
              have hD9 := hD.sub (ws' := [(oM, .inr (12, [.ref mT, .int zt, .ref mS, .ref mX, .int zp, .int zf, .ref mL, .ref mB, .ref mD, .ref m1, .ref m2, .int zh, .ref mR, .int zr, .ref x1, .ref x2, .ref x3, .int zc, .ref mH, .int zy, .int za, .int zb, .int zs, .int zq, .int zw, .int ze, .ref mY, .int zn, .ref mE, .int zm, .int zl, .ref mW, .int zk, .ref mO, .int x_1, .ref y1, .ref y2, .ref y3, .ref y4, .ref mZ])), (mY, .inl (cI, 2600, .inl eY)), (mL, .inl (cI, 512, .inl eL))]) [1, 2, 0] (by decide +kernel) rfl
              rw [hQQ]
              exact W.iret (v := 0) hx hb hr (fun t ht hW => ⟨⟨0, 0, rfl, rfl, ⟨x_1, by rw [ht]; exact hP9, hD9, by decide, by show 0 = 0 ∨ (0 ≤ x_1.toInt ∧ x_1.toInt ≤ 65535); omega, Or.inr ⟨rfl, Dec_no (by rw [← ex_1]; first | (unfold alF; (repeat (first | rw [if_pos (by omega)] | rw [if_neg (by omega)])); done) | (exfalso; omega)) (fun e9 l9 x9 h9 => by unfold DMa DM at h9; omega) (fun e9 l9 x9 h9 => by unfold DNa DN at h9; omega)⟩⟩⟩, hS.F ht⟩) hS.2.2 dX12_readAt_146
            · have tc_92 : x_1.toInt ≤ 239 := v_nlt c_92
              refine lv_iload hx hb dX12_readAt_137 (lv_at hl 0 rfl) ?_
              have hPc := hP.sub (ws' := []) [] rfl
              have hDc := hD.sub (ws' := []) [] (by decide +kernel) rfl
              have hFc := va_free (wc := []) hD hS hA [] rfl
              refine va_calli (va_runS (As := [.int r_90]) (rest := []) ⟨hx, hb, hml, hown, hts⟩ (m_X12_goesOn l dC dI cI cS H.size r_90 ) (va_cwS 1 hts gX12_readAt_X12_goesOn rfl rfl rfl (by decide +kernel) ⟨Nat.le_of_ble_eq_true rfl, Nat.le_of_ble_eq_true rfl⟩) ⟨fun a U g mk q => by obtain ⟨q0, q1, qP, qK, qD⟩ := q; exact ⟨q0, q1, qP, va_K.moved (u := U) (U := U.calling g mk a) (Vm.Alike.refl U.vm) qK, qD⟩, fun U hU hW => ⟨rfl, by rw [hU], by rw [hU]; exact hPc, va_K.moved hW.alike hK, hDc.weaken (fun _ _ _ _ => trivial)⟩⟩ rfl rfl hl.1 rfl (lv_room (Nat.le_of_ble_eq_true rfl)) dX12_readAt_139 ⟨Nat.le_of_ble_eq_true rfl, Nat.le_of_ble_eq_true rfl⟩) hS (fun q _ h => hFc q h) hFc (fun r_93 u t H1 locs ht hvm hw hB hz1 hk1 hSn => ?_)
              subst hw
              obtain ⟨hP1, hD1, hf93_0, hf93_1⟩ := hB
              rw [ht] at hP1
              obtain ⟨hPn, hDn⟩ := va_join (wr := [(mL, .inl (cI, 512, .inl eL)), (oM, .inr (12, [.ref mT, .int zt, .ref mS, .ref mX, .int zp, .int zf, .ref mL, .ref mB, .ref mD, .ref m1, .ref m2, .int zh, .ref mR, .int zr, .ref x1, .ref x2, .ref x3, .int zc, .ref mH, .int zy, .int za, .int zb, .int zs, .int zq, .int zw, .int ze, .ref mY, .int zn, .ref mE, .int zm, .int zl, .ref mW, .int zk, .ref mO, .int x_1, .ref y1, .ref y2, .ref y3, .ref y4, .ref mZ])), (mY, .inl (cI, 2600, .inl eY))]) (w1 := []) hP hD [] [0, 1, 2] rfl rfl (by decide +kernel) (by decide +kernel) hk1 hFc hP1 hD1
              clear hP hD hS hPc hDc hFc hk1 hz1 hvm ht hP1 hD1
              generalize H1 = H at hPn hSn ⊢
              have hP : va_P (dC, dI) vwCl [(mL, .inl (cI, 512, .inl eL)), (oM, .inr (12, [.ref mT, .int zt, .ref mS, .ref mX, .int zp, .int zf, .ref mL, .ref mB, .ref mD, .ref m1, .ref m2, .int zh, .ref mR, .int zr, .ref x1, .ref x2, .ref x3, .int zc, .ref mH, .int zy, .int za, .int zb, .int zs, .int zq, .int zw, .int ze, .ref mY, .int zn, .ref mE, .int zm, .int zl, .ref mW, .int zk, .ref mO, .int x_1, .ref y1, .ref y2, .ref y3, .ref y4, .ref mZ])), (mY, .inl (cI, 2600, .inl eY))] H := hPn
              have hD : va_D A [(mL, .inl (cI, 512, .inl eL)), (oM, .inr (12, [.ref mT, .int zt, .ref mS, .ref mX, .int zp, .int zf, .ref mL, .ref mB, .ref mD, .ref m1, .ref m2, .int zh, .ref mR, .int zr, .ref x1, .ref x2, .ref x3, .int zc, .ref mH, .int zy, .int za, .int zb, .int zs, .int zq, .int zw, .int ze, .ref mY, .int zn, .ref mE, .int zm, .int zl, .ref mW, .int zk, .ref mO, .int x_1, .ref y1, .ref y2, .ref y3, .ref y4, .ref mZ])), (mY, .inl (cI, 2600, .inl eY))] := hDn
              have hS := hSn
              clear hPn hDn hSn
              refine lv_if_ne (tgt := 147) hx hb dX12_readAt_142 (by decide) (fun c_94 => ?_) (fun c_94 => ?_)
              · have tc_94 : ¬ r_93.toInt = 0 := v_ne c_94
                refine lv_iload_n hx hb dX12_readAt_147 rfl (lv_at hl 1 rfl) ?_
                refine lv_sipush (v := 224) hx hb dX12_readAt_148 (by decide) ?_
                refine lv_icmp_ge (tgt := 189) hx hb dX12_readAt_151 (by decide) (fun c_95 => ?_) (fun c_95 => ?_)
                · have tc_95 : 224 ≤ x_1.toInt := v_le c_95
                  refine lv_aload_n hx hb dX12_readAt_189 rfl (lv_at hl 2 rfl) ?_
                  refine lv_iload_n hx hb dX12_readAt_190 rfl (lv_at hl 4 rfl) ?_
                  refine lv_iconst (v := 2) hx hb dX12_readAt_191 (by decide) ?_
                  refine lv_iadd hx hb dX12_readAt_192 ?_
                  refine lv_topi (fun x_96 ex_96 => ?_)
                  have tx_96 : x_96.toInt = q.toInt + 2 := v_add ex_96 (by show -2147483648 ≤ q.toInt + 2; omega) (by show q.toInt + 2 < 2147483648; omega)
                  have hPc := hP.sub (ws' := [(oM, .inr (12, [.ref mT, .int zt, .ref mS, .ref mX, .int zp, .int zf, .ref mL, .ref mB, .ref mD, .ref m1, .ref m2, .int zh, .ref mR, .int zr, .ref x1, .ref x2, .ref x3, .int zc, .ref mH, .int zy, .int za, .int zb, .int zs, .int zq, .int zw, .int ze, .ref mY, .int zn, .ref mE, .int zm, .int zl, .ref mW, .int zk, .ref mO, .int x_1, .ref y1, .ref y2, .ref y3, .ref y4, .ref mZ])), (mY, .inl (cI, 2600, .inl eY))]) [1, 2] rfl
                  have hDc := hD.sub (ws' := [(oM, .inr (12, [.ref mT, .int zt, .ref mS, .ref mX, .int zp, .int zf, .ref mL, .ref mB, .ref mD, .ref m1, .ref m2, .int zh, .ref mR, .int zr, .ref x1, .ref x2, .ref x3, .int zc, .ref mH, .int zy, .int za, .int zb, .int zs, .int zq, .int zw, .int ze, .ref mY, .int zn, .ref mE, .int zm, .int zl, .ref mW, .int zk, .ref mO, .int x_1, .ref y1, .ref y2, .ref y3, .ref y4, .ref mZ])), (mY, .inl (cI, 2600, .inl eY))]) [1, 2] (by decide +kernel) rfl
                  have hFc := va_free (wc := [(oM, .inr (12, [.ref mT, .int zt, .ref mS, .ref mX, .int zp, .int zf, .ref mL, .ref mB, .ref mD, .ref m1, .ref m2, .int zh, .ref mR, .int zr, .ref x1, .ref x2, .ref x3, .int zc, .ref mH, .int zy, .int za, .int zb, .int zs, .int zq, .int zw, .int ze, .ref mY, .int zn, .ref mE, .int zm, .int zl, .ref mW, .int zk, .ref mO, .int x_1, .ref y1, .ref y2, .ref y3, .ref y4, .ref mZ])), (mY, .inl (cI, 2600, .inl eY))]) hD hS hA [1, 2] rfl
                  refine va_calli (va_runV (As := [.int x_96]) (rest := []) ⟨hx, hb, hml, hown, hts⟩ (f_X12_byteAt l dC dI cI cS H.size oM mT mS mX mL mB mD m1 m2 mR x1 x2 x3 mH mY mE mW mO y1 y2 y3 y4 mZ zt zp zf zh zr zc zy za zb zs zq zw ze zn zm zl zk x_1 eY x_96 (g_zt) (g_zp) (g_zf) (g_zh) (g_zr) (g_zc) (g_zy) (g_za) (g_zb) (g_zs) (g_zq) (g_zn) (g_zm) (g_zk) (g_eY) (by omega)) (cwV 1 hts gX12_readAt_X12_byteAt rfl rfl rfl (by decide +kernel) ⟨Nat.le_of_ble_eq_true rfl, Nat.le_of_ble_eq_true rfl⟩) ⟨fun a U g mk q => by obtain ⟨q0, q1, qP, qK, qD⟩ := q; exact ⟨q0, q1, qP, va_K.moved (u := U) (U := U.calling g mk a) (Vm.Alike.refl U.vm) qK, qD⟩, va_recv hK hPc (ci := 12) (q0 := 0) rfl rfl, fun U hU hW => ⟨rfl, by rw [hU], by rw [hU]; exact hPc, va_K.moved hW.alike hK, hDc.weaken (fun _ _ _ _ => trivial)⟩⟩ rfl rfl hl.1 rfl (lv_room (Nat.le_of_ble_eq_true rfl)) dX12_readAt_193 ⟨Nat.le_of_ble_eq_true rfl, Nat.le_of_ble_eq_true rfl⟩) hS (fun q _ h => hFc q h) hFc (fun r_97 u t H1 locs ht hvm hw hB hz1 hk1 hSn => ?_)
                  subst hw
                  obtain ⟨hP1, hD1, hf97_0, hf97_1, hf97_2⟩ := hB
                  rw [ht] at hP1
                  obtain ⟨hPn, hDn⟩ := va_join (wr := [(mL, .inl (cI, 512, .inl eL))]) (w1 := [(oM, .inr (12, [.ref mT, .int zt, .ref mS, .ref mX, .int zp, .int zf, .ref mL, .ref mB, .ref mD, .ref m1, .ref m2, .int zh, .ref mR, .int zr, .ref x1, .ref x2, .ref x3, .int zc, .ref mH, .int zy, .int za, .int zb, .int zs, .int zq, .int zw, .int ze, .ref mY, .int zn, .ref mE, .int zm, .int zl, .ref mW, .int zk, .ref mO, .int x_1, .ref y1, .ref y2, .ref y3, .ref y4, .ref mZ])), (mY, .inl (cI, 2600, .inl eY))]) hP hD [1, 2] [0] rfl rfl (by decide +kernel) (by decide +kernel) hk1 hFc hP1 hD1
                  clear hP hD hS hPc hDc hFc hk1 hz1 hvm ht hP1 hD1
                  generalize H1 = H at hPn hSn ⊢
                  have hP : va_P (dC, dI) vwCl [(mL, .inl (cI, 512, .inl eL)), (oM, .inr (12, [.ref mT, .int zt, .ref mS, .ref mX, .int zp, .int zf, .ref mL, .ref mB, .ref mD, .ref m1, .ref m2, .int zh, .ref mR, .int zr, .ref x1, .ref x2, .ref x3, .int zc, .ref mH, .int zy, .int za, .int zb, .int zs, .int zq, .int zw, .int ze, .ref mY, .int zn, .ref mE, .int zm, .int zl, .ref mW, .int zk, .ref mO, .int x_1, .ref y1, .ref y2, .ref y3, .ref y4, .ref mZ])), (mY, .inl (cI, 2600, .inl eY))] H := hPn
                  have hD : va_D A [(mL, .inl (cI, 512, .inl eL)), (oM, .inr (12, [.ref mT, .int zt, .ref mS, .ref mX, .int zp, .int zf, .ref mL, .ref mB, .ref mD, .ref m1, .ref m2, .int zh, .ref mR, .int zr, .ref x1, .ref x2, .ref x3, .int zc, .ref mH, .int zy, .int za, .int zb, .int zs, .int zq, .int zw, .int ze, .ref mY, .int zn, .ref mE, .int zm, .int zl, .ref mW, .int zk, .ref mO, .int x_1, .ref y1, .ref y2, .ref y3, .ref y4, .ref mZ])), (mY, .inl (cI, 2600, .inl eY))] := hDn
                  have hS := hSn
                  clear hPn hDn hSn
                  have hb97 : r_97.toInt = bt eY zn.toInt (q.toNatClampNeg + 2) := bt_ix (k := q.toNatClampNeg + 2) hf97_2 (by omega)
                  refine lv_istore (lv' := [(5, .int r_97), (4, .int r_90), (3, .int x_1), (0, .ref oM), (1, .int cd), (2, .int q)]) hx hb dX12_readAt_196 hl (by decide) rfl (fun ls hl => ?_)
                  refine lv_iload hx hb dX12_readAt_198 (lv_at hl 0 rfl) ?_
                  have hPc := hP.sub (ws' := []) [] rfl
                  have hDc := hD.sub (ws' := []) [] (by decide +kernel) rfl
                  have hFc := va_free (wc := []) hD hS hA [] rfl
                  refine va_calli (va_runS (As := [.int r_97]) (rest := []) ⟨hx, hb, hml, hown, hts⟩ (m_X12_goesOn l dC dI cI cS H.size r_97 ) (va_cwS 1 hts gX12_readAt_X12_goesOn rfl rfl rfl (by decide +kernel) ⟨Nat.le_of_ble_eq_true rfl, Nat.le_of_ble_eq_true rfl⟩) ⟨fun a U g mk q => by obtain ⟨q0, q1, qP, qK, qD⟩ := q; exact ⟨q0, q1, qP, va_K.moved (u := U) (U := U.calling g mk a) (Vm.Alike.refl U.vm) qK, qD⟩, fun U hU hW => ⟨rfl, by rw [hU], by rw [hU]; exact hPc, va_K.moved hW.alike hK, hDc.weaken (fun _ _ _ _ => trivial)⟩⟩ rfl rfl hl.1 rfl (lv_room (Nat.le_of_ble_eq_true rfl)) dX12_readAt_200 ⟨Nat.le_of_ble_eq_true rfl, Nat.le_of_ble_eq_true rfl⟩) hS (fun q _ h => hFc q h) hFc (fun r_98 u t H1 locs ht hvm hw hB hz1 hk1 hSn => ?_)
                  subst hw
                  obtain ⟨hP1, hD1, hf98_0, hf98_1⟩ := hB
                  rw [ht] at hP1
                  obtain ⟨hPn, hDn⟩ := va_join (wr := [(mL, .inl (cI, 512, .inl eL)), (oM, .inr (12, [.ref mT, .int zt, .ref mS, .ref mX, .int zp, .int zf, .ref mL, .ref mB, .ref mD, .ref m1, .ref m2, .int zh, .ref mR, .int zr, .ref x1, .ref x2, .ref x3, .int zc, .ref mH, .int zy, .int za, .int zb, .int zs, .int zq, .int zw, .int ze, .ref mY, .int zn, .ref mE, .int zm, .int zl, .ref mW, .int zk, .ref mO, .int x_1, .ref y1, .ref y2, .ref y3, .ref y4, .ref mZ])), (mY, .inl (cI, 2600, .inl eY))]) (w1 := []) hP hD [] [0, 1, 2] rfl rfl (by decide +kernel) (by decide +kernel) hk1 hFc hP1 hD1
                  clear hP hD hS hPc hDc hFc hk1 hz1 hvm ht hP1 hD1
                  generalize H1 = H at hPn hSn ⊢
                  have hP : va_P (dC, dI) vwCl [(mL, .inl (cI, 512, .inl eL)), (oM, .inr (12, [.ref mT, .int zt, .ref mS, .ref mX, .int zp, .int zf, .ref mL, .ref mB, .ref mD, .ref m1, .ref m2, .int zh, .ref mR, .int zr, .ref x1, .ref x2, .ref x3, .int zc, .ref mH, .int zy, .int za, .int zb, .int zs, .int zq, .int zw, .int ze, .ref mY, .int zn, .ref mE, .int zm, .int zl, .ref mW, .int zk, .ref mO, .int x_1, .ref y1, .ref y2, .ref y3, .ref y4, .ref mZ])), (mY, .inl (cI, 2600, .inl eY))] H := hPn
                  have hD : va_D A [(mL, .inl (cI, 512, .inl eL)), (oM, .inr (12, [.ref mT, .int zt, .ref mS, .ref mX, .int zp, .int zf, .ref mL, .ref mB, .ref mD, .ref m1, .ref m2, .int zh, .ref mR, .int zr, .ref x1, .ref x2, .ref x3, .int zc, .ref mH, .int zy, .int za, .int zb, .int zs, .int zq, .int zw, .int ze, .ref mY, .int zn, .ref mE, .int zm, .int zl, .ref mW, .int zk, .ref mO, .int x_1, .ref y1, .ref y2, .ref y3, .ref y4, .ref mZ])), (mY, .inl (cI, 2600, .inl eY))] := hDn
                  have hS := hSn
                  clear hPn hDn hSn
                  refine lv_if_ne (tgt := 208) hx hb dX12_readAt_203 (by decide) (fun c_99 => ?_) (fun c_99 => ?_)
                  · have tc_99 : ¬ r_98.toInt = 0 := v_ne c_99
                    refine lv_aload_n hx hb dX12_readAt_208 rfl (lv_at hl 3 rfl) ?_
                    refine lv_iload_n hx hb dX12_readAt_209 rfl (lv_at hl 2 rfl) ?_
                    refine lv_sipush (v := 224) hx hb dX12_readAt_210 (by decide) ?_
                    refine lv_isub hx hb dX12_readAt_213 ?_
                    refine lv_topi (fun x_100 ex_100 => ?_)
                    have tx_100 : x_100.toInt = x_1.toInt - 224 := v_sub ex_100 (by show -2147483648 ≤ x_1.toInt - 224; omega) (by show x_1.toInt - 224 < 2147483648; omega)
                    refine lv_sipush (v := 4096) hx hb dX12_readAt_214 (by decide) ?_
                    refine lv_imul hx hb dX12_readAt_217 ?_
                    refine lv_topi (fun x_101 ex_101 => ?_)
                    have tx_101 : x_101.toInt = x_100.toInt * 4096 := v_mul ex_101 (by show -2147483648 ≤ x_100.toInt * 4096; omega) (by show x_100.toInt * 4096 < 2147483648; omega)
                    refine lv_iload hx hb dX12_readAt_218 (lv_at hl 1 rfl) ?_
                    refine lv_sipush (v := 128) hx hb dX12_readAt_220 (by decide) ?_
                    refine lv_isub hx hb dX12_readAt_223 ?_
                    refine lv_topi (fun x_102 ex_102 => ?_)
                    have tx_102 : x_102.toInt = r_90.toInt - 128 := v_sub ex_102 (by show -2147483648 ≤ r_90.toInt - 128; omega) (by show r_90.toInt - 128 < 2147483648; omega)
                    refine lv_bipush (v := 64) hx hb dX12_readAt_224 (by decide) ?_
                    refine lv_imul hx hb dX12_readAt_226 ?_
                    refine lv_topi (fun x_103 ex_103 => ?_)
                    have tx_103 : x_103.toInt = x_102.toInt * 64 := v_mul ex_103 (by show -2147483648 ≤ x_102.toInt * 64; omega) (by show x_102.toInt * 64 < 2147483648; omega)
                    refine lv_iadd hx hb dX12_readAt_227 ?_
                    refine lv_topi (fun x_104 ex_104 => ?_)
                    have tx_104 : x_104.toInt = x_101.toInt + x_103.toInt := v_add ex_104 (by show -2147483648 ≤ x_101.toInt + x_103.toInt; omega) (by show x_101.toInt + x_103.toInt < 2147483648; omega)
                    refine lv_iload hx hb dX12_readAt_228 (lv_at hl 0 rfl) ?_
                    refine lv_iadd hx hb dX12_readAt_230 ?_
                    refine lv_topi (fun x_105 ex_105 => ?_)
                    have tx_105 : x_105.toInt = x_104.toInt + r_97.toInt := v_add ex_105 (by show -2147483648 ≤ x_104.toInt + r_97.toInt; omega) (by show x_104.toInt + r_97.toInt < 2147483648; omega)
                    refine lv_sipush (v := 128) hx hb dX12_readAt_231 (by decide) ?_
                    refine lv_isub hx hb dX12_readAt_234 ?_
                    refine lv_topi (fun x_106 ex_106 => ?_)
                    have tx_106 : x_106.toInt = x_105.toInt - 128 := v_sub ex_106 (by show -2147483648 ≤ x_105.toInt - 128; omega) (by show x_105.toInt - 128 < 2147483648; omega)
                    refine va_put (D := (dC, dI)) (ci := 12) (v := .int x_106) (ty := .int) (C := RX12) (T := TX12) (N := 40) hx hb hts in_X12 tyX12 tyX12_ok nmX12 hown hK hP hD hS 1 rfl rfl 34 (by decide) (hts (.fieldLink RX12 105 "TextMenderModel" "readLetter" "I") (List.mem_of_getElem? (i := 2) rfl)) (fun _ h9 => h9) rfl (by decide +kernel) rfl rfl (Nat.le_of_ble_eq_true rfl) dX12_readAt_235 (fun H locs hPn hDn hSn => ?_)
                    clear hP hD hS
                    have hP : va_P (dC, dI) vwCl [(mL, .inl (cI, 512, .inl eL)), (oM, .inr (12, [.ref mT, .int zt, .ref mS, .ref mX, .int zp, .int zf, .ref mL, .ref mB, .ref mD, .ref m1, .ref m2, .int zh, .ref mR, .int zr, .ref x1, .ref x2, .ref x3, .int zc, .ref mH, .int zy, .int za, .int zb, .int zs, .int zq, .int zw, .int ze, .ref mY, .int zn, .ref mE, .int zm, .int zl, .ref mW, .int zk, .ref mO, .int x_106, .ref y1, .ref y2, .ref y3, .ref y4, .ref mZ])), (mY, .inl (cI, 2600, .inl eY))] H := hPn
                    have hD : va_D A [(mL, .inl (cI, 512, .inl eL)), (oM, .inr (12, [.ref mT, .int zt, .ref mS, .ref mX, .int zp, .int zf, .ref mL, .ref mB, .ref mD, .ref m1, .ref m2, .int zh, .ref mR, .int zr, .ref x1, .ref x2, .ref x3, .int zc, .ref mH, .int zy, .int za, .int zb, .int zs, .int zq, .int zw, .int ze, .ref mY, .int zn, .ref mE, .int zm, .int zl, .ref mW, .int zk, .ref mO, .int x_106, .ref y1, .ref y2, .ref y3, .ref y4, .ref mZ])), (mY, .inl (cI, 2600, .inl eY))] := hDn
                    have hS := hSn
                    clear hPn hDn hSn
                    refine lv_aload_n hx hb dX12_readAt_238 rfl (lv_at hl 3 rfl) ?_
                    refine va_get (D := (dC, dI)) (ci := 12) (v := .int x_106) (C := RX12) (T := TX12) (N := 40) hx hb hts in_X12 hown hK hP 1 rfl rfl 34 (by decide) (hts (.fieldLink RX12 105 "TextMenderModel" "readLetter" "I") (List.mem_of_getElem? (i := 2) rfl)) (fun _ h9 => h9) rfl dX12_readAt_239 ?_
                    refine lv_sipush (v := 2048) hx hb dX12_readAt_242 (by decide) ?_
                    refine lv_icmp_lt (tgt := 258) hx hb dX12_readAt_245 (by decide) (fun c_107 => ?_) (fun c_107 => ?_)
                    · have tc_107 : x_106.toInt < 2048 := v_lt c_107
                      refine lv_iconst (v := 0) hx hb dX12_readAt_258 (by decide) ?_
                      refine lv_goto (tgt := 263) hx hb dX12_readAt_259 (by decide) ?_
                      have hP9 := hP.sub (ws' := [(oM, .inr (12, [.ref mT, .int zt, .ref mS, .ref mX, .int zp, .int zf, .ref mL, .ref mB, .ref mD, .ref m1, .ref m2, .int zh, .ref mR, .int zr, .ref x1, .ref x2, .ref x3, .int zc, .ref mH, .int zy, .int za, .int zb, .int zs, .int zq, .int zw, .int ze, .ref mY, .int zn, .ref mE, .int zm, .int zl, .ref mW, .int zk, .ref mO, .int x_106, .ref y1, .ref y2, .ref y3, .ref y4, .ref mZ])), (mY, .inl (cI, 2600, .inl eY)), (mL, .inl (cI, 512, .inl eL))]) [1, 2, 0] rfl
                      have hD9 := hD.sub (ws' := [(oM, .inr (12, [.ref mT, .int zt, .ref mS, .ref mX, .int zp, .int zf, .ref mL, .ref mB, .ref mD, .ref m1, .ref m2, .int zh, .ref mR, .int zr, .ref x1, .ref x2, .ref x3, .int zc, .ref mH, .int zy, .int za, .int zb, .int zs, .int zq, .int zw, .int ze, .ref mY, .int zn, .ref mE, .int zm, .int zl, .ref mW, .int zk, .ref mO, .int x_106, .ref y1, .ref y2, .ref y3, .ref y4, .ref mZ])), (mY, .inl (cI, 2600, .inl eY)), (mL, .inl (cI, 512, .inl eL))]) [1, 2, 0] (by decide +kernel) rfl
                      rw [hQQ]
                      exact W.iret (v := 0) hx hb hr (fun t ht hW => ⟨⟨0, 0, rfl, rfl, ⟨x_106, by rw [ht]; exact hP9, hD9, by decide, by show 0 = 0 ∨ (0 ≤ x_106.toInt ∧ x_106.toInt ≤ 65535); omega, Or.inr ⟨rfl, Dec_no (by rw [← ex_1]; first | (unfold alF; (repeat (first | rw [if_pos (by omega)] | rw [if_neg (by omega)])); done) | (exfalso; omega)) (fun e9 l9 x9 h9 => by unfold DMa DM at h9; omega) (fun e9 l9 x9 h9 => by unfold DNa DN at h9; omega)⟩⟩⟩, hS.F ht⟩) hS.2.2 dX12_readAt_263
                    · have tc_107 : 2048 ≤ x_106.toInt := v_nlt c_107
                      refine lv_aload_n hx hb dX12_readAt_248 rfl (lv_at hl 3 rfl) ?_
                      refine va_get (D := (dC, dI)) (ci := 12) (v := .int x_106) (C := RX12) (T := TX12) (N := 40) hx hb hts in_X12 hown hK hP 1 rfl rfl 34 (by decide) (hts (.fieldLink RX12 105 "TextMenderModel" "readLetter" "I") (List.mem_of_getElem? (i := 2) rfl)) (fun _ h9 => h9) rfl dX12_readAt_249 ?_
                      have hPc := hP.sub (ws' := []) [] rfl
                      have hDc := hD.sub (ws' := []) [] (by decide +kernel) rfl
                      have hFc := va_free (wc := []) hD hS hA [] rfl
                      refine va_calli (va_runS (As := [.int x_106]) (rest := []) ⟨hx, hb, hml, hown, hts⟩ (m_X12_isLetter l dC dI cI cS H.size x_106 ) (va_cwS 1 hts gX12_readAt_X12_isLetter rfl rfl rfl (by decide +kernel) ⟨Nat.le_of_ble_eq_true rfl, Nat.le_of_ble_eq_true rfl⟩) ⟨fun a U g mk q => by obtain ⟨q0, q1, qP, qK, qD⟩ := q; exact ⟨q0, q1, qP, va_K.moved (u := U) (U := U.calling g mk a) (Vm.Alike.refl U.vm) qK, qD⟩, fun U hU hW => ⟨rfl, by rw [hU], by rw [hU]; exact hPc, va_K.moved hW.alike hK, hDc.weaken (fun _ _ _ _ => trivial)⟩⟩ rfl rfl hl.1 rfl (lv_room (Nat.le_of_ble_eq_true rfl)) dX12_readAt_252 ⟨Nat.le_of_ble_eq_true rfl, Nat.le_of_ble_eq_true rfl⟩) hS (fun q _ h => hFc q h) hFc (fun r_108 u t H1 locs ht hvm hw hB hz1 hk1 hSn => ?_)
                      subst hw
                      obtain ⟨hP1, hD1, hf108_0, hf108_1⟩ := hB
                      rw [ht] at hP1
                      obtain ⟨hPn, hDn⟩ := va_join (wr := [(mL, .inl (cI, 512, .inl eL)), (oM, .inr (12, [.ref mT, .int zt, .ref mS, .ref mX, .int zp, .int zf, .ref mL, .ref mB, .ref mD, .ref m1, .ref m2, .int zh, .ref mR, .int zr, .ref x1, .ref x2, .ref x3, .int zc, .ref mH, .int zy, .int za, .int zb, .int zs, .int zq, .int zw, .int ze, .ref mY, .int zn, .ref mE, .int zm, .int zl, .ref mW, .int zk, .ref mO, .int x_106, .ref y1, .ref y2, .ref y3, .ref y4, .ref mZ])), (mY, .inl (cI, 2600, .inl eY))]) (w1 := []) hP hD [] [0, 1, 2] rfl rfl (by decide +kernel) (by decide +kernel) hk1 hFc hP1 hD1
                      clear hP hD hS hPc hDc hFc hk1 hz1 hvm ht hP1 hD1
                      generalize H1 = H at hPn hSn ⊢
                      have hP : va_P (dC, dI) vwCl [(mL, .inl (cI, 512, .inl eL)), (oM, .inr (12, [.ref mT, .int zt, .ref mS, .ref mX, .int zp, .int zf, .ref mL, .ref mB, .ref mD, .ref m1, .ref m2, .int zh, .ref mR, .int zr, .ref x1, .ref x2, .ref x3, .int zc, .ref mH, .int zy, .int za, .int zb, .int zs, .int zq, .int zw, .int ze, .ref mY, .int zn, .ref mE, .int zm, .int zl, .ref mW, .int zk, .ref mO, .int x_106, .ref y1, .ref y2, .ref y3, .ref y4, .ref mZ])), (mY, .inl (cI, 2600, .inl eY))] H := hPn
                      have hD : va_D A [(mL, .inl (cI, 512, .inl eL)), (oM, .inr (12, [.ref mT, .int zt, .ref mS, .ref mX, .int zp, .int zf, .ref mL, .ref mB, .ref mD, .ref m1, .ref m2, .int zh, .ref mR, .int zr, .ref x1, .ref x2, .ref x3, .int zc, .ref mH, .int zy, .int za, .int zb, .int zs, .int zq, .int zw, .int ze, .ref mY, .int zn, .ref mE, .int zm, .int zl, .ref mW, .int zk, .ref mO, .int x_106, .ref y1, .ref y2, .ref y3, .ref y4, .ref mZ])), (mY, .inl (cI, 2600, .inl eY))] := hDn
                      have hS := hSn
                      clear hPn hDn hSn
                      refine lv_if_ne (tgt := 262) hx hb dX12_readAt_255 (by decide) (fun c_109 => ?_) (fun c_109 => ?_)
                      · have tc_109 : ¬ r_108.toInt = 0 := v_ne c_109
                        refine lv_iconst (v := 3) hx hb dX12_readAt_262 (by decide) ?_
                        have hP9 := hP.sub (ws' := [(oM, .inr (12, [.ref mT, .int zt, .ref mS, .ref mX, .int zp, .int zf, .ref mL, .ref mB, .ref mD, .ref m1, .ref m2, .int zh, .ref mR, .int zr, .ref x1, .ref x2, .ref x3, .int zc, .ref mH, .int zy, .int za, .int zb, .int zs, .int zq, .int zw, .int ze, .ref mY, .int zn, .ref mE, .int zm, .int zl, .ref mW, .int zk, .ref mO, .int x_106, .ref y1, .ref y2, .ref y3, .ref y4, .ref mZ])), (mY, .inl (cI, 2600, .inl eY)), (mL, .inl (cI, 512, .inl eL))]) [1, 2, 0] rfl
                        have hD9 := hD.sub (ws' := [(oM, .inr (12, [.ref mT, .int zt, .ref mS, .ref mX, .int zp, .int zf, .ref mL, .ref mB, .ref mD, .ref m1, .ref m2, .int zh, .ref mR, .int zr, .ref x1, .ref x2, .ref x3, .int zc, .ref mH, .int zy, .int za, .int zb, .int zs, .int zq, .int zw, .int ze, .ref mY, .int zn, .ref mE, .int zm, .int zl, .ref mW, .int zk, .ref mO, .int x_106, .ref y1, .ref y2, .ref y3, .ref y4, .ref mZ])), (mY, .inl (cI, 2600, .inl eY)), (mL, .inl (cI, 512, .inl eL))]) [1, 2, 0] (by decide +kernel) rfl
                        rw [hQQ]
                        exact W.iret (v := 3) hx hb hr (fun t ht hW => ⟨⟨3, 3, rfl, rfl, ⟨x_106, by rw [ht]; exact hP9, hD9, by decide, by show 3 = 0 ∨ (0 ≤ x_106.toInt ∧ x_106.toInt ≤ 65535); omega, Or.inl ⟨3, rfl, by omega, Or.inr (Or.inl ⟨by omega, by unfold DMa DM; omega⟩)⟩⟩⟩, hS.F ht⟩) hS.2.2 dX12_readAt_263
                      · have tc_109 : r_108.toInt = 0 := v_eq c_109
                        refine lv_iconst (v := 0) hx hb dX12_readAt_258 (by decide) ?_
                        refine lv_goto (tgt := 263) hx hb dX12_readAt_259 (by decide) ?_
                        have hP9 := hP.sub (ws' := [(oM, .inr (12, [.ref mT, .int zt, .ref mS, .ref mX, .int zp, .int zf, .ref mL, .ref mB, .ref mD, .ref m1, .ref m2, .int zh, .ref mR, .int zr, .ref x1, .ref x2, .ref x3, .int zc, .ref mH, .int zy, .int za, .int zb, .int zs, .int zq, .int zw, .int ze, .ref mY, .int zn, .ref mE, .int zm, .int zl, .ref mW, .int zk, .ref mO, .int x_106, .ref y1, .ref y2, .ref y3, .ref y4, .ref mZ])), (mY, .inl (cI, 2600, .inl eY)), (mL, .inl (cI, 512, .inl eL))]) [1, 2, 0] rfl
                        have hD9 := hD.sub (ws' := [(oM, .inr (12, [.ref mT, .int zt, .ref mS, .ref mX, .int zp, .int zf, .ref mL, .ref mB, .ref mD, .ref m1, .ref m2, .int zh, .ref mR, .int zr, .ref x1, .ref x2, .ref x3, .int zc, .ref mH, .int zy, .int za, .int zb, .int zs, .int zq, .int zw, .int ze, .ref mY, .int zn, .ref mE, .int zm, .int zl, .ref mW, .int zk, .ref mO, .int x_106, .ref y1, .ref y2, .ref y3, .ref y4, .ref mZ])), (mY, .inl (cI, 2600, .inl eY)), (mL, .inl (cI, 512, .inl eL))]) [1, 2, 0] (by decide +kernel) rfl
                        rw [hQQ]
                        exact W.iret (v := 0) hx hb hr (fun t ht hW => ⟨⟨0, 0, rfl, rfl, ⟨x_106, by rw [ht]; exact hP9, hD9, by decide, by show 0 = 0 ∨ (0 ≤ x_106.toInt ∧ x_106.toInt ≤ 65535); omega, Or.inr ⟨rfl, Dec_no (by rw [← ex_1]; first | (unfold alF; (repeat (first | rw [if_pos (by omega)] | rw [if_neg (by omega)])); done) | (exfalso; omega)) (fun e9 l9 x9 h9 => by unfold DMa DM at h9; omega) (fun e9 l9 x9 h9 => by unfold DNa DN at h9; omega)⟩⟩⟩, hS.F ht⟩) hS.2.2 dX12_readAt_263
                  · have tc_99 : r_98.toInt = 0 := v_eq c_99
                    refine lv_iconst (v := 0) hx hb dX12_readAt_206 (by decide) ?_
                    have hP9 := hP.sub (ws' := [(oM, .inr (12, [.ref mT, .int zt, .ref mS, .ref mX, .int zp, .int zf, .ref mL, .ref mB, .ref mD, .ref m1, .ref m2, .int zh, .ref mR, .int zr, .ref x1, .ref x2, .ref x3, .int zc, .ref mH, .int zy, .int za, .int zb, .int zs, .int zq, .int zw, .int ze, .ref mY, .int zn, .ref mE, .int zm, .int zl, .ref mW, .int zk, .ref mO, .int x_1, .ref y1, .ref y2, .ref y3, .ref y4, .ref mZ])), (mY, .inl (cI, 2600, .inl eY)), (mL, .inl (cI, 512, .inl eL))]) [1, 2, 0] rfl
                    have hD9 := hD.sub (ws' := [(oM, .inr (12, [.ref mT, .int zt, .ref mS, .ref mX, .int zp, .int zf, .ref mL, .ref mB, .ref mD, .ref m1, .ref m2, .int zh, .ref mR, .int zr, .ref x1, .ref x2, .ref x3, .int zc, .ref mH, .int zy, .int za, .int zb, .int zs, .int zq, .int zw, .int ze, .ref mY, .int zn, .ref mE, .int zm, .int zl, .ref mW, .int zk, .ref mO, .int x_1, .ref y1, .ref y2, .ref y3, .ref y4, .ref mZ])), (mY, .inl (cI, 2600, .inl eY)), (mL, .inl (cI, 512, .inl eL))]) [1, 2, 0] (by decide +kernel) rfl
                    rw [hQQ]
                    exact W.iret (v := 0) hx hb hr (fun t ht hW => ⟨⟨0, 0, rfl, rfl, ⟨x_1, by rw [ht]; exact hP9, hD9, by decide, by show 0 = 0 ∨ (0 ≤ x_1.toInt ∧ x_1.toInt ≤ 65535); omega, Or.inr ⟨rfl, Dec_no (by rw [← ex_1]; first | (unfold alF; (repeat (first | rw [if_pos (by omega)] | rw [if_neg (by omega)])); done) | (exfalso; omega)) (fun e9 l9 x9 h9 => by unfold DMa DM at h9; omega) (fun e9 l9 x9 h9 => by unfold DNa DN at h9; omega)⟩⟩⟩, hS.F ht⟩) hS.2.2 dX12_readAt_207
                · have tc_95 : x_1.toInt < 224 := v_nle c_95
                  refine lv_aload_n hx hb dX12_readAt_154 rfl (lv_at hl 2 rfl) ?_
                  refine lv_iload_n hx hb dX12_readAt_155 rfl (lv_at hl 1 rfl) ?_
                  refine lv_sipush (v := 192) hx hb dX12_readAt_156 (by decide) ?_
                  refine lv_isub hx hb dX12_readAt_159 ?_
                  refine lv_topi (fun x_110 ex_110 => ?_)
                  have tx_110 : x_110.toInt = x_1.toInt - 192 := v_sub ex_110 (by show -2147483648 ≤ x_1.toInt - 192; omega) (by show x_1.toInt - 192 < 2147483648; omega)
                  refine lv_bipush (v := 64) hx hb dX12_readAt_160 (by decide) ?_
                  refine lv_imul hx hb dX12_readAt_162 ?_
                  refine lv_topi (fun x_111 ex_111 => ?_)
                  have tx_111 : x_111.toInt = x_110.toInt * 64 := v_mul ex_111 (by show -2147483648 ≤ x_110.toInt * 64; omega) (by show x_110.toInt * 64 < 2147483648; omega)
                  refine lv_iload hx hb dX12_readAt_163 (lv_at hl 0 rfl) ?_
                  refine lv_iadd hx hb dX12_readAt_165 ?_
                  refine lv_topi (fun x_112 ex_112 => ?_)
                  have tx_112 : x_112.toInt = x_111.toInt + r_90.toInt := v_add ex_112 (by show -2147483648 ≤ x_111.toInt + r_90.toInt; omega) (by show x_111.toInt + r_90.toInt < 2147483648; omega)
                  refine lv_sipush (v := 128) hx hb dX12_readAt_166 (by decide) ?_
                  refine lv_isub hx hb dX12_readAt_169 ?_
                  refine lv_topi (fun x_113 ex_113 => ?_)
                  have tx_113 : x_113.toInt = x_112.toInt - 128 := v_sub ex_113 (by show -2147483648 ≤ x_112.toInt - 128; omega) (by show x_112.toInt - 128 < 2147483648; omega)
                  refine va_put (D := (dC, dI)) (ci := 12) (v := .int x_113) (ty := .int) (C := RX12) (T := TX12) (N := 40) hx hb hts in_X12 tyX12 tyX12_ok nmX12 hown hK hP hD hS 1 rfl rfl 34 (by decide) (hts (.fieldLink RX12 105 "TextMenderModel" "readLetter" "I") (List.mem_of_getElem? (i := 2) rfl)) (fun _ h9 => h9) rfl (by decide +kernel) rfl rfl (Nat.le_of_ble_eq_true rfl) dX12_readAt_170 (fun H locs hPn hDn hSn => ?_)
                  clear hP hD hS
                  have hP : va_P (dC, dI) vwCl [(mL, .inl (cI, 512, .inl eL)), (oM, .inr (12, [.ref mT, .int zt, .ref mS, .ref mX, .int zp, .int zf, .ref mL, .ref mB, .ref mD, .ref m1, .ref m2, .int zh, .ref mR, .int zr, .ref x1, .ref x2, .ref x3, .int zc, .ref mH, .int zy, .int za, .int zb, .int zs, .int zq, .int zw, .int ze, .ref mY, .int zn, .ref mE, .int zm, .int zl, .ref mW, .int zk, .ref mO, .int x_113, .ref y1, .ref y2, .ref y3, .ref y4, .ref mZ])), (mY, .inl (cI, 2600, .inl eY))] H := hPn
                  have hD : va_D A [(mL, .inl (cI, 512, .inl eL)), (oM, .inr (12, [.ref mT, .int zt, .ref mS, .ref mX, .int zp, .int zf, .ref mL, .ref mB, .ref mD, .ref m1, .ref m2, .int zh, .ref mR, .int zr, .ref x1, .ref x2, .ref x3, .int zc, .ref mH, .int zy, .int za, .int zb, .int zs, .int zq, .int zw, .int ze, .ref mY, .int zn, .ref mE, .int zm, .int zl, .ref mW, .int zk, .ref mO, .int x_113, .ref y1, .ref y2, .ref y3, .ref y4, .ref mZ])), (mY, .inl (cI, 2600, .inl eY))] := hDn
                  have hS := hSn
                  clear hPn hDn hSn
                  refine lv_aload_n hx hb dX12_readAt_173 rfl (lv_at hl 2 rfl) ?_
                  refine va_get (D := (dC, dI)) (ci := 12) (v := .int x_113) (C := RX12) (T := TX12) (N := 40) hx hb hts in_X12 hown hK hP 1 rfl rfl 34 (by decide) (hts (.fieldLink RX12 105 "TextMenderModel" "readLetter" "I") (List.mem_of_getElem? (i := 2) rfl)) (fun _ h9 => h9) rfl dX12_readAt_174 ?_
                  refine lv_sipush (v := 128) hx hb dX12_readAt_177 (by decide) ?_
                  refine lv_icmp_ge (tgt := 187) hx hb dX12_readAt_180 (by decide) (fun c_114 => ?_) (fun c_114 => ?_)
                  · have tc_114 : 128 ≤ x_113.toInt := v_le c_114
                    refine lv_iconst (v := 2) hx hb dX12_readAt_187 (by decide) ?_
                    have hP9 := hP.sub (ws' := [(oM, .inr (12, [.ref mT, .int zt, .ref mS, .ref mX, .int zp, .int zf, .ref mL, .ref mB, .ref mD, .ref m1, .ref m2, .int zh, .ref mR, .int zr, .ref x1, .ref x2, .ref x3, .int zc, .ref mH, .int zy, .int za, .int zb, .int zs, .int zq, .int zw, .int ze, .ref mY, .int zn, .ref mE, .int zm, .int zl, .ref mW, .int zk, .ref mO, .int x_113, .ref y1, .ref y2, .ref y3, .ref y4, .ref mZ])), (mY, .inl (cI, 2600, .inl eY)), (mL, .inl (cI, 512, .inl eL))]) [1, 2, 0] rfl
                    have hD9 := hD.sub (ws' := [(oM, .inr (12, [.ref mT, .int zt, .ref mS, .ref mX, .int zp, .int zf, .ref mL, .ref mB, .ref mD, .ref m1, .ref m2, .int zh, .ref mR, .int zr, .ref x1, .ref x2, .ref x3, .int zc, .ref mH, .int zy, .int za, .int zb, .int zs, .int zq, .int zw, .int ze, .ref mY, .int zn, .ref mE, .int zm, .int zl, .ref mW, .int zk, .ref mO, .int x_113, .ref y1, .ref y2, .ref y3, .ref y4, .ref mZ])), (mY, .inl (cI, 2600, .inl eY)), (mL, .inl (cI, 512, .inl eL))]) [1, 2, 0] (by decide +kernel) rfl
                    rw [hQQ]
                    exact W.iret (v := 2) hx hb hr (fun t ht hW => ⟨⟨2, 2, rfl, rfl, ⟨x_113, by rw [ht]; exact hP9, hD9, by decide, by show 2 = 0 ∨ (0 ≤ x_113.toInt ∧ x_113.toInt ≤ 65535); omega, Or.inl ⟨2, rfl, by omega, Or.inr (Or.inl ⟨by omega, by unfold DMa DM; omega⟩)⟩⟩⟩, hS.F ht⟩) hS.2.2 dX12_readAt_188
                  · have tc_114 : x_113.toInt < 128 := v_nle c_114
                    refine lv_iconst (v := 0) hx hb dX12_readAt_183 (by decide) ?_
                    refine lv_goto (tgt := 188) hx hb dX12_readAt_184 (by decide) ?_
                    have hP9 := hP.sub (ws' := [(oM, .inr (12, [.ref mT, .int zt, .ref mS, .ref mX, .int zp, .int zf, .ref mL, .ref mB, .ref mD, .ref m1, .ref m2, .int zh, .ref mR, .int zr, .ref x1, .ref x2, .ref x3, .int zc, .ref mH, .int zy, .int za, .int zb, .int zs, .int zq, .int zw, .int ze, .ref mY, .int zn, .ref mE, .int zm, .int zl, .ref mW, .int zk, .ref mO, .int x_113, .ref y1, .ref y2, .ref y3, .ref y4, .ref mZ])), (mY, .inl (cI, 2600, .inl eY)), (mL, .inl (cI, 512, .inl eL))]) [1, 2, 0] rfl
                    have hD9 := hD.sub (ws' := [(oM, .inr (12, [.ref mT, .int zt, .ref mS, .ref mX, .int zp, .int zf, .ref mL, .ref mB, .ref mD, .ref m1, .ref m2, .int zh, .ref mR, .int zr, .ref x1, .ref x2, .ref x3, .int zc, .ref mH, .int zy, .int za, .int zb, .int zs, .int zq, .int zw, .int ze, .ref mY, .int zn, .ref mE, .int zm, .int zl, .ref mW, .int zk, .ref mO, .int x_113, .ref y1, .ref y2, .ref y3, .ref y4, .ref mZ])), (mY, .inl (cI, 2600, .inl eY)), (mL, .inl (cI, 512, .inl eL))]) [1, 2, 0] (by decide +kernel) rfl
                    rw [hQQ]
                    exact W.iret (v := 0) hx hb hr (fun t ht hW => ⟨⟨0, 0, rfl, rfl, ⟨x_113, by rw [ht]; exact hP9, hD9, by decide, by show 0 = 0 ∨ (0 ≤ x_113.toInt ∧ x_113.toInt ≤ 65535); omega, Or.inr ⟨rfl, Dec_no (by rw [← ex_1]; first | (unfold alF; (repeat (first | rw [if_pos (by omega)] | rw [if_neg (by omega)])); done) | (exfalso; omega)) (fun e9 l9 x9 h9 => by unfold DMa DM at h9; omega) (fun e9 l9 x9 h9 => by unfold DNa DN at h9; omega)⟩⟩⟩, hS.F ht⟩) hS.2.2 dX12_readAt_188
              · have tc_94 : r_93.toInt = 0 := v_eq c_94
                refine lv_iconst (v := 0) hx hb dX12_readAt_145 (by decide) ?_
                have hP9 := hP.sub (ws' := [(oM, .inr (12, [.ref mT, .int zt, .ref mS, .ref mX, .int zp, .int zf, .ref mL, .ref mB, .ref mD, .ref m1, .ref m2, .int zh, .ref mR, .int zr, .ref x1, .ref x2, .ref x3, .int zc, .ref mH, .int zy, .int za, .int zb, .int zs, .int zq, .int zw, .int ze, .ref mY, .int zn, .ref mE, .int zm, .int zl, .ref mW, .int zk, .ref mO, .int x_1, .ref y1, .ref y2, .ref y3, .ref y4, .ref mZ])), (mY, .inl (cI, 2600, .inl eY)), (mL, .inl (cI, 512, .inl eL))]) [1, 2, 0] rfl
                have hD9 := hD.sub (ws' := [(oM, .inr (12, [.ref mT, .int zt, .ref mS, .ref mX, .int zp, .int zf, .ref mL, .ref mB, .ref mD, .ref m1, .ref m2, .int zh, .ref mR, .int zr, .ref x1, .ref x2, .ref x3, .int zc, .ref mH, .int zy, .int za, .int zb, .int zs, .int zq, .int zw, .int ze, .ref mY, .int zn, .ref mE, .int zm, .int zl, .ref mW, .int zk, .ref mO, .int x_1, .ref y1, .ref y2, .ref y3, .ref y4, .ref mZ])), (mY, .inl (cI, 2600, .inl eY)), (mL, .inl (cI, 512, .inl eL))]) [1, 2, 0] (by decide +kernel) rfl
                rw [hQQ]
                exact W.iret (v := 0) hx hb hr (fun t ht hW => ⟨⟨0, 0, rfl, rfl, ⟨x_1, by rw [ht]; exact hP9, hD9, by decide, by show 0 = 0 ∨ (0 ≤ x_1.toInt ∧ x_1.toInt ≤ 65535); omega, Or.inr ⟨rfl, Dec_no (by rw [← ex_1]; first | (unfold alF; (repeat (first | rw [if_pos (by omega)] | rw [if_neg (by omega)])); done) | (exfalso; omega)) (fun e9 l9 x9 h9 => by unfold DMa DM at h9; omega) (fun e9 l9 x9 h9 => by unfold DNa DN at h9; omega)⟩⟩⟩, hS.F ht⟩) hS.2.2 dX12_readAt_146
        · have tc_86 : cd.toInt = 3 := v_eq c_86
          refine lv_iconst (v := 0) hx hb dX12_readAt_87 (by decide) ?_
          have hP9 := hP.sub (ws' := [(oM, .inr (12, [.ref mT, .int zt, .ref mS, .ref mX, .int zp, .int zf, .ref mL, .ref mB, .ref mD, .ref m1, .ref m2, .int zh, .ref mR, .int zr, .ref x1, .ref x2, .ref x3, .int zc, .ref mH, .int zy, .int za, .int zb, .int zs, .int zq, .int zw, .int ze, .ref mY, .int zn, .ref mE, .int zm, .int zl, .ref mW, .int zk, .ref mO, .int x_1, .ref y1, .ref y2, .ref y3, .ref y4, .ref mZ])), (mY, .inl (cI, 2600, .inl eY)), (mL, .inl (cI, 512, .inl eL))]) [0, 1, 2] rfl
          have hD9 := hD.sub (ws' := [(oM, .inr (12, [.ref mT, .int zt, .ref mS, .ref mX, .int zp, .int zf, .ref mL, .ref mB, .ref mD, .ref m1, .ref m2, .int zh, .ref mR, .int zr, .ref x1, .ref x2, .ref x3, .int zc, .ref mH, .int zy, .int za, .int zb, .int zs, .int zq, .int zw, .int ze, .ref mY, .int zn, .ref mE, .int zm, .int zl, .ref mW, .int zk, .ref mO, .int x_1, .ref y1, .ref y2, .ref y3, .ref y4, .ref mZ])), (mY, .inl (cI, 2600, .inl eY)), (mL, .inl (cI, 512, .inl eL))]) [0, 1, 2] (by decide +kernel) rfl
          rw [hQQ]
          exact W.iret (v := 0) hx hb hr (fun t ht hW => ⟨⟨0, 0, rfl, rfl, ⟨x_1, by rw [ht]; exact hP9, hD9, by decide, by show 0 = 0 ∨ (0 ≤ x_1.toInt ∧ x_1.toInt ≤ 65535); omega, Or.inr ⟨rfl, Dec_no (by rw [← ex_1]; first | (unfold alF; (repeat (first | rw [if_pos (by omega)] | rw [if_neg (by omega)])); done) | (exfalso; omega)) (fun e9 l9 x9 h9 => by unfold DMa DM at h9; omega) (fun e9 l9 x9 h9 => by unfold DNa DN at h9; omega)⟩⟩⟩, hS.F ht⟩) hS.2.2 dX12_readAt_88
    · have tc_3 : 3 < cd.toInt := v_nle c_3
      refine lv_aload_n hx hb dX12_readAt_44 rfl (lv_at hl 1 rfl) ?_
      refine lv_aload_n hx hb dX12_readAt_45 rfl (lv_at hl 1 rfl) ?_
      refine va_get (D := (dC, dI)) (ci := 12) (v := .ref mL) (C := RX12) (T := TX12) (N := 40) hx hb hts in_X12 hown hK hP 0 rfl rfl 6 (by decide) (hts (.fieldLink RX12 19 "TextMenderModel" "letterOf" "[I") (List.mem_of_getElem? (i := 3) rfl)) (fun _ h9 => h9) rfl dX12_readAt_46 ?_
      refine lv_sipush (v := 256) hx hb dX12_readAt_49 (by decide) ?_
      refine lv_iload_n hx hb dX12_readAt_52 rfl (lv_at hl 2 rfl) ?_
      refine lv_iconst (v := 4) hx hb dX12_readAt_53 (by decide) ?_
      refine lv_isub hx hb dX12_readAt_54 ?_
      refine lv_topi (fun x_115 ex_115 => ?_)
      have tx_115 : x_115.toInt = cd.toInt - 4 := v_sub ex_115 (by show -2147483648 ≤ cd.toInt - 4; omega) (by show cd.toInt - 4 < 2147483648; omega)
      refine lv_imul hx hb dX12_readAt_55 ?_
      refine lv_topi (fun x_116 ex_116 => ?_)
      have tx_116 : x_116.toInt = 256 * x_115.toInt := v_mul ex_116 (by show -2147483648 ≤ 256 * x_115.toInt; omega) (by show 256 * x_115.toInt < 2147483648; omega)
      refine lv_iload_n hx hb dX12_readAt_56 rfl (lv_at hl 0 rfl) ?_
      refine lv_iadd hx hb dX12_readAt_57 ?_
      refine lv_topi (fun x_117 ex_117 => ?_)
      have tx_117 : x_117.toInt = x_116.toInt + x_1.toInt := v_add ex_117 (by show -2147483648 ≤ x_116.toInt + x_1.toInt; omega) (by show x_116.toInt + x_1.toInt < 2147483648; omega)
      refine va_iald hx hb hK hP 2 0 rfl rfl (v_in (by omega)) dX12_readAt_58 ?_
      refine lv_topi (fun x_118 ex_118 => ?_)
      have tx_118 : -1 ≤ x_118.toInt ∧ x_118.toInt ≤ 65535 := rg_at g_eL ex_118
      refine va_put (D := (dC, dI)) (ci := 12) (v := .int x_118) (ty := .int) (C := RX12) (T := TX12) (N := 40) hx hb hts in_X12 tyX12 tyX12_ok nmX12 hown hK hP hD hS 0 rfl rfl 34 (by decide) (hts (.fieldLink RX12 105 "TextMenderModel" "readLetter" "I") (List.mem_of_getElem? (i := 2) rfl)) (fun _ h9 => h9) rfl (by decide +kernel) rfl rfl (Nat.le_of_ble_eq_true rfl) dX12_readAt_59 (fun H locs hPn hDn hSn => ?_)
      clear hP hD hS
      have hP : va_P (dC, dI) vwCl [(oM, .inr (12, [.ref mT, .int zt, .ref mS, .ref mX, .int zp, .int zf, .ref mL, .ref mB, .ref mD, .ref m1, .ref m2, .int zh, .ref mR, .int zr, .ref x1, .ref x2, .ref x3, .int zc, .ref mH, .int zy, .int za, .int zb, .int zs, .int zq, .int zw, .int ze, .ref mY, .int zn, .ref mE, .int zm, .int zl, .ref mW, .int zk, .ref mO, .int x_118, .ref y1, .ref y2, .ref y3, .ref y4, .ref mZ])), (mY, .inl (cI, 2600, .inl eY)), (mL, .inl (cI, 512, .inl eL))] H := hPn
      have hD : va_D A [(oM, .inr (12, [.ref mT, .int zt, .ref mS, .ref mX, .int zp, .int zf, .ref mL, .ref mB, .ref mD, .ref m1, .ref m2, .int zh, .ref mR, .int zr, .ref x1, .ref x2, .ref x3, .int zc, .ref mH, .int zy, .int za, .int zb, .int zs, .int zq, .int zw, .int ze, .ref mY, .int zn, .ref mE, .int zm, .int zl, .ref mW, .int zk, .ref mO, .int x_118, .ref y1, .ref y2, .ref y3, .ref y4, .ref mZ])), (mY, .inl (cI, 2600, .inl eY)), (mL, .inl (cI, 512, .inl eL))] := hDn
      have hS := hSn
      clear hPn hDn hSn
      refine lv_aload_n hx hb dX12_readAt_62 rfl (lv_at hl 1 rfl) ?_
      refine va_get (D := (dC, dI)) (ci := 12) (v := .int x_118) (C := RX12) (T := TX12) (N := 40) hx hb hts in_X12 hown hK hP 0 rfl rfl 34 (by decide) (hts (.fieldLink RX12 105 "TextMenderModel" "readLetter" "I") (List.mem_of_getElem? (i := 2) rfl)) (fun _ h9 => h9) rfl dX12_readAt_63 ?_
      refine lv_iconst (v := (-1)) hx hb dX12_readAt_66 (by decide) ?_
      refine lv_icmp_ne (tgt := 74) hx hb dX12_readAt_67 (by decide) (fun c_119 => ?_) (fun c_119 => ?_)
      · have tc_119 : ¬ x_118.toInt = (-1) := v_ne c_119
        refine lv_iconst (v := 1) hx hb dX12_readAt_74 (by decide) ?_
        have hP9 := hP.sub (ws' := [(oM, .inr (12, [.ref mT, .int zt, .ref mS, .ref mX, .int zp, .int zf, .ref mL, .ref mB, .ref mD, .ref m1, .ref m2, .int zh, .ref mR, .int zr, .ref x1, .ref x2, .ref x3, .int zc, .ref mH, .int zy, .int za, .int zb, .int zs, .int zq, .int zw, .int ze, .ref mY, .int zn, .ref mE, .int zm, .int zl, .ref mW, .int zk, .ref mO, .int x_118, .ref y1, .ref y2, .ref y3, .ref y4, .ref mZ])), (mY, .inl (cI, 2600, .inl eY)), (mL, .inl (cI, 512, .inl eL))]) [0, 1, 2] rfl
        have hD9 := hD.sub (ws' := [(oM, .inr (12, [.ref mT, .int zt, .ref mS, .ref mX, .int zp, .int zf, .ref mL, .ref mB, .ref mD, .ref m1, .ref m2, .int zh, .ref mR, .int zr, .ref x1, .ref x2, .ref x3, .int zc, .ref mH, .int zy, .int za, .int zb, .int zs, .int zq, .int zw, .int ze, .ref mY, .int zn, .ref mE, .int zm, .int zl, .ref mW, .int zk, .ref mO, .int x_118, .ref y1, .ref y2, .ref y3, .ref y4, .ref mZ])), (mY, .inl (cI, 2600, .inl eY)), (mL, .inl (cI, 512, .inl eL))]) [0, 1, 2] (by decide +kernel) rfl
        rw [hQQ]
        exact W.iret (v := 1) hx hb hr (fun t ht hW => ⟨⟨1, 1, rfl, rfl, ⟨x_118, by rw [ht]; exact hP9, hD9, by decide, by show 1 = 0 ∨ (0 ≤ x_118.toInt ∧ x_118.toInt ≤ 65535); omega, Or.inl ⟨1, rfl, by omega, Or.inl ⟨rfl, (by rw [← ex_1]; exact (alF_hi (b := cd) (v := x_1) (x := x_117) (eL := eL) (by omega) (by omega) (by omega) (by omega)).trans ex_118.symm), c_119⟩⟩⟩⟩, hS.F ht⟩) hS.2.2 dX12_readAt_75
      · have tc_119 : x_118.toInt = (-1) := v_eq c_119
        refine lv_iconst (v := 0) hx hb dX12_readAt_70 (by decide) ?_
        refine lv_goto (tgt := 75) hx hb dX12_readAt_71 (by decide) ?_
        have hP9 := hP.sub (ws' := [(oM, .inr (12, [.ref mT, .int zt, .ref mS, .ref mX, .int zp, .int zf, .ref mL, .ref mB, .ref mD, .ref m1, .ref m2, .int zh, .ref mR, .int zr, .ref x1, .ref x2, .ref x3, .int zc, .ref mH, .int zy, .int za, .int zb, .int zs, .int zq, .int zw, .int ze, .ref mY, .int zn, .ref mE, .int zm, .int zl, .ref mW, .int zk, .ref mO, .int x_118, .ref y1, .ref y2, .ref y3, .ref y4, .ref mZ])), (mY, .inl (cI, 2600, .inl eY)), (mL, .inl (cI, 512, .inl eL))]) [0, 1, 2] rfl
        have hD9 := hD.sub (ws' := [(oM, .inr (12, [.ref mT, .int zt, .ref mS, .ref mX, .int zp, .int zf, .ref mL, .ref mB, .ref mD, .ref m1, .ref m2, .int zh, .ref mR, .int zr, .ref x1, .ref x2, .ref x3, .int zc, .ref mH, .int zy, .int za, .int zb, .int zs, .int zq, .int zw, .int ze, .ref mY, .int zn, .ref mE, .int zm, .int zl, .ref mW, .int zk, .ref mO, .int x_118, .ref y1, .ref y2, .ref y3, .ref y4, .ref mZ])), (mY, .inl (cI, 2600, .inl eY)), (mL, .inl (cI, 512, .inl eL))]) [0, 1, 2] (by decide +kernel) rfl
        rw [hQQ]
        exact W.iret (v := 0) hx hb hr (fun t ht hW => ⟨⟨0, 0, rfl, rfl, ⟨x_118, by rw [ht]; exact hP9, hD9, by decide, by show 0 = 0 ∨ (0 ≤ x_118.toInt ∧ x_118.toInt ≤ 65535); omega, Or.inr ⟨rfl, Dec_no (by rw [← ex_1]; exact (alF_hi (b := cd) (v := x_1) (x := x_117) (eL := eL) (by omega) (by omega) (by omega) (by omega)).trans (ex_118.symm.trans c_119)) (fun e9 l9 x9 h9 => by unfold DMa DM at h9; omega) (fun e9 l9 x9 h9 => by unfold DNa DN at h9; omega)⟩⟩⟩, hS.F ht⟩) hS.2.2 dX12_readAt_75
  · have tc_2 : cd.toInt < 2 := v_nle c_2
    refine lv_iload_n hx hb dX12_readAt_17 rfl (lv_at hl 0 rfl) ?_
    refine lv_iload_n hx hb dX12_readAt_18 rfl (lv_at hl 2 rfl) ?_
    refine lv_if_ne (tgt := 27) hx hb dX12_readAt_19 (by decide) (fun c_120 => ?_) (fun c_120 => ?_)
    · have tc_120 : ¬ cd.toInt = 0 := v_ne c_120
      refine lv_sipush (v := 255) hx hb dX12_readAt_27 (by decide) ?_
      refine lv_icmp_le (tgt := 37) hx hb dX12_readAt_30 (by decide) (fun c_121 => ?_) (fun c_121 => by exfalso; have tc_121 : 255 < x_1.toInt := v_nle c_121; omega)
      have tc_121 : x_1.toInt ≤ 255 := v_le c_121
      refine lv_iconst (v := 1) hx hb dX12_readAt_37 (by decide) ?_
      have hP9 := hP.sub (ws' := [(oM, .inr (12, [.ref mT, .int zt, .ref mS, .ref mX, .int zp, .int zf, .ref mL, .ref mB, .ref mD, .ref m1, .ref m2, .int zh, .ref mR, .int zr, .ref x1, .ref x2, .ref x3, .int zc, .ref mH, .int zy, .int za, .int zb, .int zs, .int zq, .int zw, .int ze, .ref mY, .int zn, .ref mE, .int zm, .int zl, .ref mW, .int zk, .ref mO, .int x_1, .ref y1, .ref y2, .ref y3, .ref y4, .ref mZ])), (mY, .inl (cI, 2600, .inl eY)), (mL, .inl (cI, 512, .inl eL))]) [0, 1, 2] rfl
      have hD9 := hD.sub (ws' := [(oM, .inr (12, [.ref mT, .int zt, .ref mS, .ref mX, .int zp, .int zf, .ref mL, .ref mB, .ref mD, .ref m1, .ref m2, .int zh, .ref mR, .int zr, .ref x1, .ref x2, .ref x3, .int zc, .ref mH, .int zy, .int za, .int zb, .int zs, .int zq, .int zw, .int ze, .ref mY, .int zn, .ref mE, .int zm, .int zl, .ref mW, .int zk, .ref mO, .int x_1, .ref y1, .ref y2, .ref y3, .ref y4, .ref mZ])), (mY, .inl (cI, 2600, .inl eY)), (mL, .inl (cI, 512, .inl eL))]) [0, 1, 2] (by decide +kernel) rfl
      rw [hQQ]
      exact W.iret (v := 1) hx hb hr (fun t ht hW => ⟨⟨1, 1, rfl, rfl, ⟨x_1, by rw [ht]; exact hP9, hD9, by decide, by show 1 = 0 ∨ (0 ≤ x_1.toInt ∧ x_1.toInt ≤ 65535); omega, Or.inl ⟨1, rfl, by omega, Or.inl ⟨rfl, (by rw [← ex_1]; first | (unfold alF; (repeat (first | rw [if_pos (by omega)] | rw [if_neg (by omega)])); done) | (exfalso; omega)), v_nn (by omega)⟩⟩⟩⟩, hS.F ht⟩) hS.2.2 dX12_readAt_38
    · have tc_120 : cd.toInt = 0 := v_eq c_120
      refine lv_bipush (v := 127) hx hb dX12_readAt_22 (by decide) ?_
      refine lv_goto (tgt := 30) hx hb dX12_readAt_24 (by decide) ?_
      refine lv_icmp_le (tgt := 37) hx hb dX12_readAt_30 (by decide) (fun c_122 => ?_) (fun c_122 => ?_)
      · have tc_122 : x_1.toInt ≤ 127 := v_le c_122
        refine lv_iconst (v := 1) hx hb dX12_readAt_37 (by decide) ?_
        have hP9 := hP.sub (ws' := [(oM, .inr (12, [.ref mT, .int zt, .ref mS, .ref mX, .int zp, .int zf, .ref mL, .ref mB, .ref mD, .ref m1, .ref m2, .int zh, .ref mR, .int zr, .ref x1, .ref x2, .ref x3, .int zc, .ref mH, .int zy, .int za, .int zb, .int zs, .int zq, .int zw, .int ze, .ref mY, .int zn, .ref mE, .int zm, .int zl, .ref mW, .int zk, .ref mO, .int x_1, .ref y1, .ref y2, .ref y3, .ref y4, .ref mZ])), (mY, .inl (cI, 2600, .inl eY)), (mL, .inl (cI, 512, .inl eL))]) [0, 1, 2] rfl
        have hD9 := hD.sub (ws' := [(oM, .inr (12, [.ref mT, .int zt, .ref mS, .ref mX, .int zp, .int zf, .ref mL, .ref mB, .ref mD, .ref m1, .ref m2, .int zh, .ref mR, .int zr, .ref x1, .ref x2, .ref x3, .int zc, .ref mH, .int zy, .int za, .int zb, .int zs, .int zq, .int zw, .int ze, .ref mY, .int zn, .ref mE, .int zm, .int zl, .ref mW, .int zk, .ref mO, .int x_1, .ref y1, .ref y2, .ref y3, .ref y4, .ref mZ])), (mY, .inl (cI, 2600, .inl eY)), (mL, .inl (cI, 512, .inl eL))]) [0, 1, 2] (by decide +kernel) rfl
        rw [hQQ]
        exact W.iret (v := 1) hx hb hr (fun t ht hW => ⟨⟨1, 1, rfl, rfl, ⟨x_1, by rw [ht]; exact hP9, hD9, by decide, by show 1 = 0 ∨ (0 ≤ x_1.toInt ∧ x_1.toInt ≤ 65535); omega, Or.inl ⟨1, rfl, by omega, Or.inl ⟨rfl, (by rw [← ex_1]; first | (unfold alF; (repeat (first | rw [if_pos (by omega)] | rw [if_neg (by omega)])); done) | (exfalso; omega)), v_nn (by omega)⟩⟩⟩⟩, hS.F ht⟩) hS.2.2 dX12_readAt_38
      · have tc_122 : 127 < x_1.toInt := v_nle c_122
        refine lv_iconst (v := 0) hx hb dX12_readAt_33 (by decide) ?_
        refine lv_goto (tgt := 38) hx hb dX12_readAt_34 (by decide) ?_
        have hP9 := hP.sub (ws' := [(oM, .inr (12, [.ref mT, .int zt, .ref mS, .ref mX, .int zp, .int zf, .ref mL, .ref mB, .ref mD, .ref m1, .ref m2, .int zh, .ref mR, .int zr, .ref x1, .ref x2, .ref x3, .int zc, .ref mH, .int zy, .int za, .int zb, .int zs, .int zq, .int zw, .int ze, .ref mY, .int zn, .ref mE, .int zm, .int zl, .ref mW, .int zk, .ref mO, .int x_1, .ref y1, .ref y2, .ref y3, .ref y4, .ref mZ])), (mY, .inl (cI, 2600, .inl eY)), (mL, .inl (cI, 512, .inl eL))]) [0, 1, 2] rfl
        have hD9 := hD.sub (ws' := [(oM, .inr (12, [.ref mT, .int zt, .ref mS, .ref mX, .int zp, .int zf, .ref mL, .ref mB, .ref mD, .ref m1, .ref m2, .int zh, .ref mR, .int zr, .ref x1, .ref x2, .ref x3, .int zc, .ref mH, .int zy, .int za, .int zb, .int zs, .int zq, .int zw, .int ze, .ref mY, .int zn, .ref mE, .int zm, .int zl, .ref mW, .int zk, .ref mO, .int x_1, .ref y1, .ref y2, .ref y3, .ref y4, .ref mZ])), (mY, .inl (cI, 2600, .inl eY)), (mL, .inl (cI, 512, .inl eL))]) [0, 1, 2] (by decide +kernel) rfl
        rw [hQQ]
        exact W.iret (v := 0) hx hb hr (fun t ht hW => ⟨⟨0, 0, rfl, rfl, ⟨x_1, by rw [ht]; exact hP9, hD9, by decide, by show 0 = 0 ∨ (0 ≤ x_1.toInt ∧ x_1.toInt ≤ 65535); omega, Or.inr ⟨rfl, Dec_no (by rw [← ex_1]; first | (unfold alF; (repeat (first | rw [if_pos (by omega)] | rw [if_neg (by omega)])); done) | (exfalso; omega)) (fun e9 l9 x9 h9 => by unfold DMa DM at h9; omega) (fun e9 l9 x9 h9 => by unfold DNa DN at h9; omega)⟩⟩⟩, hS.F ht⟩) hS.2.2 dX12_readAt_38

end

/-! 59e.a.rows -/
section
theorem dX11_tapeHoldsBytes_0 : decode cX11_tapeHoldsBytes 0 = .ok (.iconst 0, 1) := by decide +kernel
theorem dX11_tapeHoldsBytes_1 : decode cX11_tapeHoldsBytes 1 = .ok (.istore_n 1, 1) := by decide +kernel
theorem dX11_tapeHoldsBytes_2 : decode cX11_tapeHoldsBytes 2 = .ok (.iload_n 1, 1) := by decide +kernel
theorem dX11_tapeHoldsBytes_3 : decode cX11_tapeHoldsBytes 3 = .ok (.aload_n 0, 1) := by decide +kernel
theorem dX11_tapeHoldsBytes_4 : decode cX11_tapeHoldsBytes 4 = .ok (.getfield 30, 3) := by decide +kernel
set_option maxRecDepth 20000 in
theorem ggX11_tapeHoldsBytes_X5_length : GoodIn wsX11_tapeHoldsBytes wsX5_length := goodIn_r _ [7, 8, 26, 27] rfl (by decide +kernel)
set_option maxRecDepth 20000 in
theorem gX11_tapeHoldsBytes_X5_length : GoodIn wsX11_tapeHoldsBytes (wsV RX11 94 RX5 yX5_length wsX5_length) := goodIn_app (goodIn_r _ [3, 4, 5, 6] rfl (by decide +kernel)) ggX11_tapeHoldsBytes_X5_length
theorem dX11_tapeHoldsBytes_7 : decode cX11_tapeHoldsBytes 7 = .ok (.invokevirtual 94, 3) := by decide +kernel
theorem dX11_tapeHoldsBytes_10 : decode cX11_tapeHoldsBytes 10 = .ok (.if_icmp .ge 36, 3) := by decide +kernel
theorem dX11_tapeHoldsBytes_46 : decode cX11_tapeHoldsBytes 46 = .ok (.iconst 1, 1) := by decide +kernel
theorem dX11_tapeHoldsBytes_47 : decode cX11_tapeHoldsBytes 47 = .ok (.ireturn, 1) := by decide +kernel
theorem dX11_tapeHoldsBytes_13 : decode cX11_tapeHoldsBytes 13 = .ok (.aload_n 0, 1) := by decide +kernel
theorem dX11_tapeHoldsBytes_14 : decode cX11_tapeHoldsBytes 14 = .ok (.getfield 30, 3) := by decide +kernel
theorem dX11_tapeHoldsBytes_17 : decode cX11_tapeHoldsBytes 17 = .ok (.iload_n 1, 1) := by decide +kernel
set_option maxRecDepth 20000 in
theorem ggX11_tapeHoldsBytes_X5_get : GoodIn wsX11_tapeHoldsBytes wsX5_get := goodIn_r _ [12, 8, 13, 26, 27] rfl (by decide +kernel)
set_option maxRecDepth 20000 in
theorem gX11_tapeHoldsBytes_X5_get : GoodIn wsX11_tapeHoldsBytes (wsV RX11 167 RX5 yX5_get wsX5_get) := goodIn_app (goodIn_r _ [9, 10, 11, 6] rfl (by decide +kernel)) ggX11_tapeHoldsBytes_X5_get
theorem dX11_tapeHoldsBytes_18 : decode cX11_tapeHoldsBytes 18 = .ok (.invokevirtual 167, 3) := by decide +kernel
theorem dX11_tapeHoldsBytes_21 : decode cX11_tapeHoldsBytes 21 = .ok (.istore_n 2, 1) := by decide +kernel
theorem dX11_tapeHoldsBytes_22 : decode cX11_tapeHoldsBytes 22 = .ok (.iload_n 2, 1) := by decide +kernel
theorem dX11_tapeHoldsBytes_23 : decode cX11_tapeHoldsBytes 23 = .ok (.ifCond .lt 10, 3) := by decide +kernel
theorem dX11_tapeHoldsBytes_33 : decode cX11_tapeHoldsBytes 33 = .ok (.aload_n 0, 1) := by decide +kernel
theorem dX11_tapeHoldsBytes_34 : decode cX11_tapeHoldsBytes 34 = .ok (.iload_n 1, 1) := by decide +kernel
theorem dX11_tapeHoldsBytes_35 : decode cX11_tapeHoldsBytes 35 = .ok (.putfield 90, 3) := by decide +kernel
theorem dX11_tapeHoldsBytes_38 : decode cX11_tapeHoldsBytes 38 = .ok (.iconst 0, 1) := by decide +kernel
theorem dX11_tapeHoldsBytes_39 : decode cX11_tapeHoldsBytes 39 = .ok (.ireturn, 1) := by decide +kernel
theorem dX11_tapeHoldsBytes_26 : decode cX11_tapeHoldsBytes 26 = .ok (.iload_n 2, 1) := by decide +kernel
theorem dX11_tapeHoldsBytes_27 : decode cX11_tapeHoldsBytes 27 = .ok (.sipush 256, 3) := by decide +kernel
theorem dX11_tapeHoldsBytes_30 : decode cX11_tapeHoldsBytes 30 = .ok (.if_icmp .lt 10, 3) := by decide +kernel
theorem dX11_tapeHoldsBytes_40 : decode cX11_tapeHoldsBytes 40 = .ok (.iinc 1 1, 3) := by decide +kernel
theorem dX11_tapeHoldsBytes_43 : decode cX11_tapeHoldsBytes 43 = .ok (.goto (-41), 3) := by decide +kernel

end
