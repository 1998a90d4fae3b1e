set_option maxHeartbeats 40000000 in
set_option maxRecDepth 100000 in
theorem f_X2_letterIn (l : Launch) (dC : Nat → ClassId) (dI : Nat → Nat → Nat) (cI cS : ClassId) (sz : Nat) (fd : Int32)  : Met l yX2_letterIn wsX2_letterIn ({ frames := 0, cells := 0, slots := 0, locals := 0 } : Room) (va_Pc [.int fd] (fun U => U.heap.size = sz ∧ va_P (dC, dI) vwCl [] U.heap ∧ va_K (dC, dI) vwCl [(cI, .int), (cS, .short)] U ∧ va_D (fun _ => True) [])) (va_Qi (fun (r : Int32) (u : Int32) => r = u) (fun (r : Int32) t => va_P (dC, dI) vwCl [] t.heap ∧ va_D (va_A [] sz) [] ∧ (r.toInt = fd.toInt / 16)) (va_A [] sz)) 0 0 (va_A [] sz) := by
  refine Met.ofW (cc := cX2_letterIn) (maxL := 1) (ret := (some .int)) (by decide) rfl ?_
  intro p e s m args below meth c s₁ B hml hv
  obtain ⟨rfl, hsz, hP, hK, hD0⟩ := hv
  have hx := B.exec
  have hb := B.bytes
  have hr := B.returns
  have hts := atoms_spec (ws := wsX2_letterIn) B.pre
  have hown : s.vm.findClass RX2 = some m.cls := findClass_of_methodNamed B.named
  have hlocks := B.notSynchronized
  subst hsz
  have hD := hD0.self (sz := s.heap.size)
  generalize hAe : va_A [] s.heap.size = A at hD ⊢
  have hA : ∀ q : Nat, s.heap.size ≤ q → A q := fun q h => by rw [← hAe]; exact Or.inr h
  have hS : va_S A s.heap s.heap [] := va_S.rf
  have hP : va_P (dC, dI) vwCl [] s.heap := hP
  have hl := lv_entry ([.int fd]) (n := 1) (Nat.le_of_ble_eq_true rfl)
  rw [lg_entry_eq]
  generalize (lg_sl ([.int fd]) ++ List.replicate (1 - (lg_sl ([.int fd])).length) Slot.unset).toArray = ls at hl ⊢
  have hl : lv_has ls 1 [(0, .int fd)] := hl
  obtain ⟨QQ, hQQ⟩ : ∃ QQ : Array Value → State → Outcome → State → Prop, QQ = va_Qi (fun (r : Int32) (u : Int32) => r = u) (fun (r : Int32) t => va_P (dC, dI) vwCl [] t.heap ∧ va_D A [] ∧ (r.toInt = fd.toInt / 16)) A := ⟨_, rfl⟩
  rw [← hQQ]
  refine lv_iload_n hx hb dX2_letterIn_0 rfl (lv_at hl 0 rfl) ?_
  refine lv_iconst (v := 4) hx hb dX2_letterIn_1 (by decide) ?_
  refine lv_ishr hx hb dX2_letterIn_2 ?_
  refine lv_topi (fun x_1 ex_1 => ?_)
  have rv1_0 := v_rng fd
  have tx_1 : x_1.toInt = fd.toInt / 16 := v_shr 4 ex_1 (by decide)
  have hP9 := hP.sub (ws' := []) [] rfl
  have hD9 := hD.sub (ws' := []) [] (by decide) rfl
  rw [hQQ]
  exact W.iret (v := x_1) hx hb hr (fun t ht hW => ⟨⟨x_1, x_1, rfl, rfl, ⟨by rw [ht]; exact hP9, hD9, by show x_1.toInt = fd.toInt / 16; omega⟩⟩, hS.F ht⟩) hS.2.2 dX2_letterIn_3

set_option maxHeartbeats 40000000 in
set_option maxRecDepth 100000 in
theorem f_X2_bytesIn (l : Launch) (dC : Nat → ClassId) (dI : Nat → Nat → Nat) (cI cS : ClassId) (sz : Nat) (fd : Int32) (g_fd : 0 ≤ fd.toInt ∧ fd.toInt ≤ 2000000) : Met l yX2_bytesIn wsX2_bytesIn ({ frames := 0, cells := 0, slots := 0, locals := 0 } : Room) (va_Pc [.int fd] (fun U => U.heap.size = sz ∧ va_P (dC, dI) vwCl [] U.heap ∧ va_K (dC, dI) vwCl [(cI, .int), (cS, .short)] U ∧ va_D (fun _ => True) [])) (va_Qi (fun (r : Int32) (u : Int32) => r = u) (fun (r : Int32) t => va_P (dC, dI) vwCl [] t.heap ∧ va_D (va_A [] sz) [] ∧ (0 ≤ r.toInt ∧ r.toInt ≤ 15) ∧ (r.toInt = fd.toInt % 16)) (va_A [] sz)) 0 0 (va_A [] sz) := by
  refine Met.ofW (cc := cX2_bytesIn) (maxL := 1) (ret := (some .int)) (by decide) rfl ?_
  intro p e s m args below meth c s₁ B hml hv
  obtain ⟨rfl, hsz, hP, hK, hD0⟩ := hv
  have hx := B.exec
  have hb := B.bytes
  have hr := B.returns
  have hts := atoms_spec (ws := wsX2_bytesIn) B.pre
  have hown : s.vm.findClass RX2 = some m.cls := findClass_of_methodNamed B.named
  have hlocks := B.notSynchronized
  subst hsz
  have hD := hD0.self (sz := s.heap.size)
  generalize hAe : va_A [] s.heap.size = A at hD ⊢
  have hA : ∀ q : Nat, s.heap.size ≤ q → A q := fun q h => by rw [← hAe]; exact Or.inr h
  have hS : va_S A s.heap s.heap [] := va_S.rf
  have hP : va_P (dC, dI) vwCl [] s.heap := hP
  have hl := lv_entry ([.int fd]) (n := 1) (Nat.le_of_ble_eq_true rfl)
  rw [lg_entry_eq]
  generalize (lg_sl ([.int fd]) ++ List.replicate (1 - (lg_sl ([.int fd])).length) Slot.unset).toArray = ls at hl ⊢
  have hl : lv_has ls 1 [(0, .int fd)] := hl
  obtain ⟨QQ, hQQ⟩ : ∃ QQ : Array Value → State → Outcome → State → Prop, QQ = va_Qi (fun (r : Int32) (u : Int32) => r = u) (fun (r : Int32) t => va_P (dC, dI) vwCl [] t.heap ∧ va_D A [] ∧ (0 ≤ r.toInt ∧ r.toInt ≤ 15) ∧ (r.toInt = fd.toInt % 16)) A := ⟨_, rfl⟩
  rw [← hQQ]
  refine lv_iload_n hx hb dX2_bytesIn_0 rfl (lv_at hl 0 rfl) ?_
  refine lv_bipush (v := 15) hx hb dX2_bytesIn_1 (by decide) ?_
  refine lv_iand hx hb dX2_bytesIn_3 ?_
  refine lv_topi (fun x_1 ex_1 => ?_)
  have tx_1 : 0 ≤ x_1.toInt ∧ x_1.toInt < 16 := v_and 4 ex_1 (by decide) (by decide)
  have tb_x_1 : x_1.toInt = fd.toInt % 16 := v_and15 ex_1 (by omega)
  have hP9 := hP.sub (ws' := []) [] rfl
  have hD9 := hD.sub (ws' := []) [] (by decide) rfl
  rw [hQQ]
  exact W.iret (v := x_1) hx hb hr (fun t ht hW => ⟨⟨x_1, x_1, rfl, rfl, ⟨by rw [ht]; exact hP9, hD9, by omega, by show x_1.toInt = fd.toInt % 16; omega⟩⟩, hS.F ht⟩) hS.2.2 dX2_bytesIn_4

set_option maxHeartbeats 40000000 in
set_option maxRecDepth 100000 in
theorem f_X2_found (l : Launch) (dC : Nat → ClassId) (dI : Nat → Nat → Nat) (cI cS : ClassId) (sz : Nat) (le : Int32) (by_ : Int32) (g_le : 0 ≤ le.toInt ∧ le.toInt ≤ 65535) (g_by_ : 0 ≤ by_.toInt ∧ by_.toInt ≤ 15) : Met l yX2_found wsX2_found ({ frames := 0, cells := 0, slots := 0, locals := 0 } : Room) (va_Pc [.int le, .int by_] (fun U => U.heap.size = sz ∧ va_P (dC, dI) vwCl [] U.heap ∧ va_K (dC, dI) vwCl [(cI, .int), (cS, .short)] U ∧ va_D (fun _ => True) [])) (va_Qi (fun (r : Int32) (u : Int32) => r = u) (fun (r : Int32) t => va_P (dC, dI) vwCl [] t.heap ∧ va_D (va_A [] sz) [] ∧ (r.toInt = 16 * le.toInt + by_.toInt)) (va_A [] sz)) 0 0 (va_A [] sz) := by
  refine Met.ofW (cc := cX2_found) (maxL := 2) (ret := (some .int)) (by decide) rfl ?_
  intro p e s m args below meth c s₁ B hml hv
  obtain ⟨rfl, hsz, hP, hK, hD0⟩ := hv
  have hx := B.exec
  have hb := B.bytes
  have hr := B.returns
  have hts := atoms_spec (ws := wsX2_found) B.pre
  have hown : s.vm.findClass RX2 = some m.cls := findClass_of_methodNamed B.named
  have hlocks := B.notSynchronized
  subst hsz
  have hD := hD0.self (sz := s.heap.size)
  generalize hAe : va_A [] s.heap.size = A at hD ⊢
  have hA : ∀ q : Nat, s.heap.size ≤ q → A q := fun q h => by rw [← hAe]; exact Or.inr h
  have hS : va_S A s.heap s.heap [] := va_S.rf
  have hP : va_P (dC, dI) vwCl [] s.heap := hP
  have hl := lv_entry ([.int le, .int by_]) (n := 2) (Nat.le_of_ble_eq_true rfl)
  rw [lg_entry_eq]
  generalize (lg_sl ([.int le, .int by_]) ++ List.replicate (2 - (lg_sl ([.int le, .int by_])).length) Slot.unset).toArray = ls at hl ⊢
  have hl : lv_has ls 2 [(0, .int le), (1, .int by_)] := hl
  obtain ⟨QQ, hQQ⟩ : ∃ QQ : Array Value → State → Outcome → State → Prop, QQ = va_Qi (fun (r : Int32) (u : Int32) => r = u) (fun (r : Int32) t => va_P (dC, dI) vwCl [] t.heap ∧ va_D A [] ∧ (r.toInt = 16 * le.toInt + by_.toInt)) A := ⟨_, rfl⟩
  rw [← hQQ]
  refine lv_iload_n hx hb dX2_found_0 rfl (lv_at hl 0 rfl) ?_
  refine lv_iconst (v := (-1)) hx hb dX2_found_1 (by decide) ?_
  refine lv_icmp_ne (tgt := 9) hx hb dX2_found_2 (by decide) (fun c_1 => ?_) (fun c_1 => by exfalso; have tc_1 : le.toInt = (-1) := v_eq c_1; omega)
  have tc_1 : ¬ le.toInt = (-1) := v_ne c_1
  refine lv_iload_n hx hb dX2_found_9 rfl (lv_at hl 0 rfl) ?_
  refine lv_iconst (v := 4) hx hb dX2_found_10 (by decide) ?_
  refine lv_ishl hx hb dX2_found_11 ?_
  refine lv_topi (fun x_2 ex_2 => ?_)
  have tb_x_2 : x_2.toInt = 16 * le.toInt := v_shl4 ex_2 (by omega)
  refine lv_iload_n hx hb dX2_found_12 rfl (lv_at hl 1 rfl) ?_
  refine lv_iadd hx hb dX2_found_13 ?_
  refine lv_topi (fun x_3 ex_3 => ?_)
  have tx_3 : x_3.toInt = x_2.toInt + by_.toInt := v_add ex_3 (by show -2147483648 ≤ x_2.toInt + by_.toInt; omega) (by show x_2.toInt + by_.toInt < 2147483648; omega)
  have hP9 := hP.sub (ws' := []) [] rfl
  have hD9 := hD.sub (ws' := []) [] (by decide) rfl
  rw [hQQ]
  exact W.iret (v := x_3) hx hb hr (fun t ht hW => ⟨⟨x_3, x_3, rfl, rfl, ⟨by rw [ht]; exact hP9, hD9, by show x_3.toInt = 16 * le.toInt + by_.toInt; omega⟩⟩, hS.F ht⟩) hS.2.2 dX2_found_14

set_option maxHeartbeats 40000000 in
set_option maxRecDepth 100000 in
theorem f_X2_isNumbered (l : Launch) (dC : Nat → ClassId) (dI : Nat → Nat → Nat) (cI cS : ClassId) (sz : Nat) (le : Int32)  : Met l yX2_isNumbered wsX2_isNumbered ({ frames := 0, cells := 0, slots := 0, locals := 0 } : Room) (va_Pc [.int le] (fun U => U.heap.size = sz ∧ va_P (dC, dI) vwCl [] U.heap ∧ va_K (dC, dI) vwCl [(cI, .int), (cS, .short)] U ∧ va_D (fun _ => True) [])) (va_Qi (fun (r : Int32) (u : Int32) => r = u) (fun (r : Int32) t => va_P (dC, dI) vwCl [] t.heap ∧ va_D (va_A [] sz) [] ∧ (0 ≤ r.toInt ∧ r.toInt ≤ 1) ∧ ((r.toInt = 1 ∧ (128 ≤ le.toInt ∨ le.toInt = 38)) ∨ (r.toInt = 0 ∧ le.toInt < 128 ∧ ¬ le.toInt = 38))) (va_A [] sz)) 0 0 (va_A [] sz) := by
  refine Met.ofW (cc := cX2_isNumbered) (maxL := 1) (ret := (some .boolean)) (by decide) rfl ?_
  intro p e s m args below meth c s₁ B hml hv
  obtain ⟨rfl, hsz, hP, hK, hD0⟩ := hv
  have hx := B.exec
  have hb := B.bytes
  have hr := B.returns
  have hts := atoms_spec (ws := wsX2_isNumbered) B.pre
  have hown : s.vm.findClass RX2 = some m.cls := findClass_of_methodNamed B.named
  have hlocks := B.notSynchronized
  subst hsz
  have hD := hD0.self (sz := s.heap.size)
  generalize hAe : va_A [] s.heap.size = A at hD ⊢
  have hA : ∀ q : Nat, s.heap.size ≤ q → A q := fun q h => by rw [← hAe]; exact Or.inr h
  have hS : va_S A s.heap s.heap [] := va_S.rf
  have hP : va_P (dC, dI) vwCl [] s.heap := hP
  have hl := lv_entry ([.int le]) (n := 1) (Nat.le_of_ble_eq_true rfl)
  rw [lg_entry_eq]
  generalize (lg_sl ([.int le]) ++ List.replicate (1 - (lg_sl ([.int le])).length) Slot.unset).toArray = ls at hl ⊢
  have hl : lv_has ls 1 [(0, .int le)] := hl
  obtain ⟨QQ, hQQ⟩ : ∃ QQ : Array Value → State → Outcome → State → Prop, QQ = va_Qi (fun (r : Int32) (u : Int32) => r = u) (fun (r : Int32) t => va_P (dC, dI) vwCl [] t.heap ∧ va_D A [] ∧ (0 ≤ r.toInt ∧ r.toInt ≤ 1) ∧ ((r.toInt = 1 ∧ (128 ≤ le.toInt ∨ le.toInt = 38)) ∨ (r.toInt = 0 ∧ le.toInt < 128 ∧ ¬ le.toInt = 38))) A := ⟨_, rfl⟩
  rw [← hQQ]
  refine lv_iload_n hx hb dX2_isNumbered_0 rfl (lv_at hl 0 rfl) ?_
  refine lv_sipush (v := 128) hx hb dX2_isNumbered_1 (by decide) ?_
  refine lv_icmp_ge (tgt := 13) hx hb dX2_isNumbered_4 (by decide) (fun c_1 => ?_) (fun c_1 => ?_)
  · have tc_1 : 128 ≤ le.toInt := v_le c_1
    refine lv_iconst (v := 1) hx hb dX2_isNumbered_13 (by decide) ?_
    refine lv_goto (tgt := 18) hx hb dX2_isNumbered_14 (by decide) ?_
    have hP9 := hP.sub (ws' := []) [] rfl
    have hD9 := hD.sub (ws' := []) [] (by decide) rfl
    rw [hQQ]
    exact W.zret (v := 1) (ty := .boolean) hx hb hr (rfl) (fun t ht hW => ⟨⟨1, 1, rfl, rfl, ⟨by rw [ht]; exact hP9, hD9, by decide, by show (1 = 1 ∧ (128 ≤ le.toInt ∨ le.toInt = 38)) ∨ (1 = 0 ∧ le.toInt < 128 ∧ ¬ le.toInt = 38); omega⟩⟩, hS.F ht⟩) hS.2.2 dX2_isNumbered_18
  · have tc_1 : le.toInt < 128 := v_nle c_1
    refine lv_iload_n hx hb dX2_isNumbered_7 rfl (lv_at hl 0 rfl) ?_
    refine lv_bipush (v := 38) hx hb dX2_isNumbered_8 (by decide) ?_
    refine lv_icmp_ne (tgt := 17) hx hb dX2_isNumbered_10 (by decide) (fun c_2 => ?_) (fun c_2 => ?_)
    · have tc_2 : ¬ le.toInt = 38 := v_ne c_2
      refine lv_iconst (v := 0) hx hb dX2_isNumbered_17 (by decide) ?_
      have hP9 := hP.sub (ws' := []) [] rfl
      have hD9 := hD.sub (ws' := []) [] (by decide) rfl
      rw [hQQ]
      exact W.zret (v := 0) (ty := .boolean) hx hb hr (rfl) (fun t ht hW => ⟨⟨0, 0, rfl, rfl, ⟨by rw [ht]; exact hP9, hD9, by decide, by show (0 = 1 ∧ (128 ≤ le.toInt ∨ le.toInt = 38)) ∨ (0 = 0 ∧ le.toInt < 128 ∧ ¬ le.toInt = 38); omega⟩⟩, hS.F ht⟩) hS.2.2 dX2_isNumbered_18
    · have tc_2 : le.toInt = 38 := v_eq c_2
      refine lv_iconst (v := 1) hx hb dX2_isNumbered_13 (by decide) ?_
      refine lv_goto (tgt := 18) hx hb dX2_isNumbered_14 (by decide) ?_
      have hP9 := hP.sub (ws' := []) [] rfl
      have hD9 := hD.sub (ws' := []) [] (by decide) rfl
      rw [hQQ]
      exact W.zret (v := 1) (ty := .boolean) hx hb hr (rfl) (fun t ht hW => ⟨⟨1, 1, rfl, rfl, ⟨by rw [ht]; exact hP9, hD9, by decide, by show (1 = 1 ∧ (128 ≤ le.toInt ∨ le.toInt = 38)) ∨ (1 = 0 ∧ le.toInt < 128 ∧ ¬ le.toInt = 38); omega⟩⟩, hS.F ht⟩) hS.2.2 dX2_isNumbered_18

set_option maxHeartbeats 40000000 in
set_option maxRecDepth 100000 in
theorem f_X2_decodeMany (l : Launch) (dC : Nat → ClassId) (dI : Nat → Nat → Nat) (cI cS : ClassId) (sz : Nat) (nu : Nat) (au : Nat) (cap : Nat) (lu : Int32) (fu : Nat → Int32) (fr : Int32) (en : Int32) (g_lu : 0 ≤ lu.toInt ∧ lu.toInt ≤ (cap : Int)) (g_fr : 0 ≤ fr.toInt ∧ fr.toInt ≤ 2400) (hcap : cap ≤ 2400) (hen : en.toInt ≤ lu.toInt) (hfe : fr.toInt < en.toInt) : Met l yX2_decodeMany wsX2_decodeMany ({ frames := 1, cells := 0, slots := 0, locals := 21 } : Room) (va_Pc [.ref nu, .int fr, .int en] (fun U => U.heap.size = sz ∧ va_P (dC, dI) vwCl [(nu, .inr (5, [.ref au, .int lu])), (au, .inl (cI, cap, .inl fu))] U.heap ∧ va_K (dC, dI) vwCl [(cI, .int), (cS, .short)] U ∧ va_D (fun _ => True) [(nu, .inr (5, [.ref au, .int lu])), (au, .inl (cI, cap, .inl fu))] ∧ va_Nw (.methodLinkNest RX2 52 yX11_isLetter "TextMender") U)) (va_Qi (fun (r : Int32) (u : Int32) => r = u) (fun (r : Int32) t => va_P (dC, dI) vwCl [(nu, .inr (5, [.ref au, .int lu])), (au, .inl (cI, cap, .inl fu))] t.heap ∧ va_D (va_A [(nu, .inr (5, [.ref au, .int lu])), (au, .inl (cI, cap, .inl fu))] sz) [(nu, .inr (5, [.ref au, .int lu])), (au, .inl (cI, cap, .inl fu))] ∧ (F_dm r fu en.toInt fr.toNatClampNeg)) (va_A [(nu, .inr (5, [.ref au, .int lu])), (au, .inl (cI, cap, .inl fu))] sz)) 0 0 (va_A [(nu, .inr (5, [.ref au, .int lu])), (au, .inl (cI, cap, .inl fu))] sz) := by
  refine Met.ofW (cc := cX2_decodeMany) (maxL := 8) (ret := (some .int)) (by decide) rfl ?_
  intro p e s m args below meth c s₁ B hml hv
  obtain ⟨rfl, hsz, hP, hK, hD0, hN52⟩ := hv
  have hx := B.exec
  have hb := B.bytes
  have hr := B.returns
  have hts := atoms_spec (ws := wsX2_decodeMany) B.pre
  have hown : s.vm.findClass RX2 = some m.cls := findClass_of_methodNamed B.named
  have hlocks := B.notSynchronized
  subst hsz
  have hD := hD0.self (sz := s.heap.size)
  generalize hAe : va_A [(nu, .inr (5, [.ref au, .int lu])), (au, .inl (cI, cap, .inl fu))] s.heap.size = A at hD ⊢
  have hA : ∀ q : Nat, s.heap.size ≤ q → A q := fun q h => by rw [← hAe]; exact Or.inr h
  have hS : va_S A s.heap s.heap [] := va_S.rf
  have hP : va_P (dC, dI) vwCl [(nu, .inr (5, [.ref au, .int lu])), (au, .inl (cI, cap, .inl fu))] s.heap := hP
  have hl := lv_entry ([.ref nu, .int fr, .int en]) (n := 8) (Nat.le_of_ble_eq_true rfl)
  rw [lg_entry_eq]
  generalize (lg_sl ([.ref nu, .int fr, .int en]) ++ List.replicate (8 - (lg_sl ([.ref nu, .int fr, .int en])).length) Slot.unset).toArray = ls at hl ⊢
  have hl : lv_has ls 8 [(0, .ref nu), (1, .int fr), (2, .int en)] := hl
  obtain ⟨QQ, hQQ⟩ : ∃ QQ : Array Value → State → Outcome → State → Prop, QQ = va_Qi (fun (r : Int32) (u : Int32) => r = u) (fun (r : Int32) t => va_P (dC, dI) vwCl [(nu, .inr (5, [.ref au, .int lu])), (au, .inl (cI, cap, .inl fu))] t.heap ∧ va_D A [(nu, .inr (5, [.ref au, .int lu])), (au, .inl (cI, cap, .inl fu))] ∧ (F_dm r fu en.toInt fr.toNatClampNeg)) A := ⟨_, rfl⟩
  rw [← hQQ]
  have c0 := v_clamp (x := fr) (by omega)
  have z0 : (0 : Int32).toInt = 0 := rfl
  have z1 : (1 : Int32).toInt = 1 := rfl
  have z2 : (2 : Int32).toInt = 2 := rfl
  have z3 : (3 : Int32).toInt = 3 := rfl
  refine lv_aload_n hx hb dX2_decodeMany_0 rfl (lv_at hl 0 rfl) ?_
  refine lv_iload_n hx hb dX2_decodeMany_1 rfl (lv_at hl 1 rfl) ?_
  have hPc := hP.sub (ws' := [(nu, .inr (5, [.ref au, .int lu])), (au, .inl (cI, cap, .inl fu))]) [0, 1] rfl
  have hDc := hD.sub (ws' := [(nu, .inr (5, [.ref au, .int lu])), (au, .inl (cI, cap, .inl fu))]) [0, 1] (by decide) rfl
  have hFc := va_free (wc := [(nu, .inr (5, [.ref au, .int lu])), (au, .inl (cI, cap, .inl fu))]) hD hS hA [0, 1] rfl
  refine va_calli (va_runV (As := [.int fr]) (rest := []) ⟨hx, hb, hml, hown, hts⟩ (m_X5_get l dC dI cI cS s.heap.size nu au cap lu fu fr (by omega) (by omega)) (cwV 1 hts gX2_decodeMany_X5_get rfl rfl rfl (by decide +kernel) ⟨Nat.le_of_ble_eq_true rfl, Nat.le_of_ble_eq_true rfl⟩) ⟨fun a U g mk q => by obtain ⟨q0, q1, qP, qK, qD⟩ := q; exact ⟨q0, q1, qP, va_K.moved (u := U) (U := U.calling g mk a) (Vm.Alike.refl U.vm) qK, qD⟩, va_recv hK hPc (ci := 5) (q0 := 0) rfl rfl, fun U hU hW => ⟨rfl, by rw [hU], by rw [hU]; exact hPc, va_K.moved hW.alike hK, hDc.weaken (fun _ _ _ _ => trivial)⟩⟩ rfl rfl hl.1 rfl (lv_room (Nat.le_of_ble_eq_true rfl)) dX2_decodeMany_2 ⟨Nat.le_of_ble_eq_true rfl, Nat.le_of_ble_eq_true rfl⟩) hS (fun q _ h => hFc q h) hFc (fun r_1 u t H1 locs ht hvm hw hB hz1 hk1 hS => ?_)
  subst hw
  obtain ⟨hP1, hD1, hf1_0⟩ := hB
  rw [ht] at hP1
  obtain ⟨hP, hD⟩ := va_join (wr := []) (w1 := [(nu, .inr (5, [.ref au, .int lu])), (au, .inl (cI, cap, .inl fu))]) hP hD [0, 1] [] rfl rfl (by decide) (by decide) hk1 hFc hP1 hD1
  generalize H1 = H at hP hS ⊢
  have hP : va_P (dC, dI) vwCl [(nu, .inr (5, [.ref au, .int lu])), (au, .inl (cI, cap, .inl fu))] H := hP
  have hD : va_D A [(nu, .inr (5, [.ref au, .int lu])), (au, .inl (cI, cap, .inl fu))] := hD
  have hb1 : r_1.toInt = bt fu en.toInt fr.toNatClampNeg := get_bt (k := fr.toNatClampNeg) hf1_0 (by omega) (by omega) hen
  refine lv_istore_n (lv' := [(3, .int r_1), (0, .ref nu), (1, .int fr), (2, .int en)]) hx hb dX2_decodeMany_5 rfl hl (by decide) rfl (fun ls hl => ?_)
  refine lv_iload_n hx hb dX2_decodeMany_6 rfl (lv_at hl 0 rfl) ?_
  refine lv_sipush (v := 224) hx hb dX2_decodeMany_7 (by decide) ?_
  refine lv_icmp_lt (tgt := 17) hx hb dX2_decodeMany_10 (by decide) (fun c_2 => ?_) (fun c_2 => ?_)
  · have tc_2 : r_1.toInt < 224 := v_lt c_2
    refine lv_iconst (v := 2) hx hb dX2_decodeMany_17 (by decide) ?_
    refine lv_istore (lv' := [(4, .int 2), (3, .int r_1), (0, .ref nu), (1, .int fr), (2, .int en)]) hx hb dX2_decodeMany_18 hl (by decide) rfl (fun ls hl => ?_)
    refine lv_iload_n hx hb dX2_decodeMany_20 rfl (lv_at hl 1 rfl) ?_
    refine lv_sipush (v := 192) hx hb dX2_decodeMany_21 (by decide) ?_
    refine lv_icmp_lt (tgt := 42) hx hb dX2_decodeMany_24 (by decide) (fun c_3 => ?_) (fun c_3 => ?_)
    · have tc_3 : r_1.toInt < 192 := v_lt c_3
      refine lv_iconst (v := (-1)) hx hb dX2_decodeMany_42 (by decide) ?_
      have hP9 := hP.sub (ws' := [(nu, .inr (5, [.ref au, .int lu])), (au, .inl (cI, cap, .inl fu))]) [0, 1] rfl
      have hD9 := hD.sub (ws' := [(nu, .inr (5, [.ref au, .int lu])), (au, .inl (cI, cap, .inl fu))]) [0, 1] (by decide) rfl
      rw [hQQ]
      exact W.iret (v := (-1)) hx hb hr (fun t ht hW => ⟨⟨(-1), (-1), rfl, rfl, ⟨by rw [ht]; exact hP9, hD9, Or.inr ⟨rfl, fun l x h => by have o1 := bt_c fu en.toInt (fr.toNatClampNeg + 1); have o2 := bt_c fu en.toInt (fr.toNatClampNeg + 2); unfold DMa DM at h; omega⟩⟩⟩, hS.F ht⟩) hS.2.2 dX2_decodeMany_43
    · have tc_3 : 192 ≤ r_1.toInt := v_nlt c_3
      refine lv_iload_n hx hb dX2_decodeMany_27 rfl (lv_at hl 1 rfl) ?_
      refine lv_sipush (v := 239) hx hb dX2_decodeMany_28 (by decide) ?_
      refine lv_icmp_gt (tgt := 42) hx hb dX2_decodeMany_31 (by decide) (fun c_4 => by exfalso; have tc_4 : 239 < r_1.toInt := v_lt c_4; omega) (fun c_4 => ?_)
      have tc_4 : r_1.toInt ≤ 239 := v_nlt c_4
      refine lv_iload hx hb dX2_decodeMany_34 (lv_at hl 0 rfl) ?_
      refine lv_iload_n hx hb dX2_decodeMany_36 rfl (lv_at hl 4 rfl) ?_
      refine lv_iload_n hx hb dX2_decodeMany_37 rfl (lv_at hl 3 rfl) ?_
      refine lv_isub hx hb dX2_decodeMany_38 ?_
      refine lv_topi (fun x_5 ex_5 => ?_)
      have tx_5 : x_5.toInt = en.toInt - fr.toInt := v_sub ex_5 (by show -2147483648 ≤ en.toInt - fr.toInt; omega) (by show en.toInt - fr.toInt < 2147483648; omega)
      refine lv_icmp_le (tgt := 44) hx hb dX2_decodeMany_39 (by decide) (fun c_6 => ?_) (fun c_6 => ?_)
      · have tc_6 : 2 ≤ x_5.toInt := v_le c_6
        refine lv_iload hx hb dX2_decodeMany_44 (lv_at hl 0 rfl) ?_
        refine lv_iconst (v := 3) hx hb dX2_decodeMany_46 (by decide) ?_
        refine lv_icmp_ne (tgt := 58) hx hb dX2_decodeMany_47 (by decide) (fun c_7 => ?_) (fun c_7 => absurd c_7 (by decide))
        refine lv_iload_n hx hb dX2_decodeMany_58 rfl (lv_at hl 1 rfl) ?_
        refine lv_sipush (v := 192) hx hb dX2_decodeMany_59 (by decide) ?_
        refine lv_isub hx hb dX2_decodeMany_62 ?_
        refine lv_topi (fun x_8 ex_8 => ?_)
        have tx_8 : x_8.toInt = r_1.toInt - 192 := v_sub ex_8 (by show -2147483648 ≤ r_1.toInt - 192; omega) (by show r_1.toInt - 192 < 2147483648; omega)
        refine lv_istore (lv' := [(5, .int x_8), (4, .int 2), (3, .int r_1), (0, .ref nu), (1, .int fr), (2, .int en)]) hx hb dX2_decodeMany_63 hl (by decide) rfl (fun ls hl => ?_)
        refine lv_iconst (v := 1) hx hb dX2_decodeMany_65 (by decide) ?_
        refine lv_istore (lv' := [(6, .int 1), (5, .int x_8), (4, .int 2), (3, .int r_1), (0, .ref nu), (1, .int fr), (2, .int en)]) hx hb dX2_decodeMany_66 hl (by decide) rfl (fun ls hl => ?_)
        refine lv_iload hx hb dX2_decodeMany_68 (lv_at hl 0 rfl) ?_
        refine lv_iload hx hb dX2_decodeMany_70 (lv_at hl 2 rfl) ?_
        refine lv_icmp_ge (tgt := 123) hx hb dX2_decodeMany_72 (by decide) (fun c_9 => absurd c_9 (by decide)) (fun c_9 => ?_)
        refine lv_aload_n hx hb dX2_decodeMany_75 rfl (lv_at hl 4 rfl) ?_
        refine lv_iload_n hx hb dX2_decodeMany_76 rfl (lv_at hl 5 rfl) ?_
        refine lv_iload hx hb dX2_decodeMany_77 (lv_at hl 0 rfl) ?_
        refine lv_iadd hx hb dX2_decodeMany_79 ?_
        refine lv_topi (fun x_10 ex_10 => ?_)
        have tx_10 : x_10.toInt = fr.toInt + 1 := v_add ex_10 (by show -2147483648 ≤ fr.toInt + 1; omega) (by show fr.toInt + 1 < 2147483648; omega)
        have hPc := hP.sub (ws' := [(nu, .inr (5, [.ref au, .int lu])), (au, .inl (cI, cap, .inl fu))]) [0, 1] rfl
        have hDc := hD.sub (ws' := [(nu, .inr (5, [.ref au, .int lu])), (au, .inl (cI, cap, .inl fu))]) [0, 1] (by decide) rfl
        have hFc := va_free (wc := [(nu, .inr (5, [.ref au, .int lu])), (au, .inl (cI, cap, .inl fu))]) hD hS hA [0, 1] rfl
        refine va_calli (va_runV (As := [.int x_10]) (rest := []) ⟨hx, hb, hml, hown, hts⟩ (m_X5_get l dC dI cI cS H.size nu au cap lu fu x_10 (by omega) (by omega)) (cwV 1 hts gX2_decodeMany_X5_get rfl rfl rfl (by decide +kernel) ⟨Nat.le_of_ble_eq_true rfl, Nat.le_of_ble_eq_true rfl⟩) ⟨fun a U g mk q => by obtain ⟨q0, q1, qP, qK, qD⟩ := q; exact ⟨q0, q1, qP, va_K.moved (u := U) (U := U.calling g mk a) (Vm.Alike.refl U.vm) qK, qD⟩, va_recv hK hPc (ci := 5) (q0 := 0) rfl rfl, fun U hU hW => ⟨rfl, by rw [hU], by rw [hU]; exact hPc, va_K.moved hW.alike hK, hDc.weaken (fun _ _ _ _ => trivial)⟩⟩ rfl rfl hl.1 rfl (lv_room (Nat.le_of_ble_eq_true rfl)) dX2_decodeMany_80 ⟨Nat.le_of_ble_eq_true rfl, Nat.le_of_ble_eq_true rfl⟩) hS (fun q _ h => hFc q h) hFc (fun r_11 u t H1 locs ht hvm hw hB hz1 hk1 hS => ?_)
        subst hw
        obtain ⟨hP1, hD1, hf11_0⟩ := hB
        rw [ht] at hP1
        obtain ⟨hP, hD⟩ := va_join (wr := []) (w1 := [(nu, .inr (5, [.ref au, .int lu])), (au, .inl (cI, cap, .inl fu))]) hP hD [0, 1] [] rfl rfl (by decide) (by decide) hk1 hFc hP1 hD1
        generalize H1 = H at hP hS ⊢
        have hP : va_P (dC, dI) vwCl [(nu, .inr (5, [.ref au, .int lu])), (au, .inl (cI, cap, .inl fu))] H := hP
        have hD : va_D A [(nu, .inr (5, [.ref au, .int lu])), (au, .inl (cI, cap, .inl fu))] := hD
        have hb11 : r_11.toInt = bt fu en.toInt (fr.toNatClampNeg + 1) := get_bt (k := fr.toNatClampNeg + 1) hf11_0 (by omega) (by omega) hen
        refine lv_istore (lv' := [(7, .int r_11), (6, .int 1), (5, .int x_8), (4, .int 2), (3, .int r_1), (0, .ref nu), (1, .int fr), (2, .int en)]) hx hb dX2_decodeMany_83 hl (by decide) rfl (fun ls hl => ?_)
        refine lv_iload hx hb dX2_decodeMany_85 (lv_at hl 0 rfl) ?_
        refine lv_sipush (v := 128) hx hb dX2_decodeMany_87 (by decide) ?_
        refine lv_icmp_lt (tgt := 101) hx hb dX2_decodeMany_90 (by decide) (fun c_12 => ?_) (fun c_12 => ?_)
        · have tc_12 : r_11.toInt < 128 := v_lt c_12
          refine lv_iconst (v := (-1)) hx hb dX2_decodeMany_101 (by decide) ?_
          have hP9 := hP.sub (ws' := [(nu, .inr (5, [.ref au, .int lu])), (au, .inl (cI, cap, .inl fu))]) [0, 1] rfl
          have hD9 := hD.sub (ws' := [(nu, .inr (5, [.ref au, .int lu])), (au, .inl (cI, cap, .inl fu))]) [0, 1] (by decide) rfl
          rw [hQQ]
          exact W.iret (v := (-1)) hx hb hr (fun t ht hW => ⟨⟨(-1), (-1), rfl, rfl, ⟨by rw [ht]; exact hP9, hD9, Or.inr ⟨rfl, fun l x h => by have o1 := bt_c fu en.toInt (fr.toNatClampNeg + 1); have o2 := bt_c fu en.toInt (fr.toNatClampNeg + 2); unfold DMa DM at h; omega⟩⟩⟩, hS.F ht⟩) hS.2.2 dX2_decodeMany_102
        · have tc_12 : 128 ≤ r_11.toInt := v_nlt c_12
          refine lv_iload hx hb dX2_decodeMany_93 (lv_at hl 0 rfl) ?_
          refine lv_sipush (v := 191) hx hb dX2_decodeMany_95 (by decide) ?_
          refine lv_icmp_le (tgt := 103) hx hb dX2_decodeMany_98 (by decide) (fun c_13 => ?_) (fun c_13 => ?_)
          · have tc_13 : r_11.toInt ≤ 191 := v_le c_13
            refine lv_iload hx hb dX2_decodeMany_103 (lv_at hl 2 rfl) ?_
            refine lv_bipush (v := 64) hx hb dX2_decodeMany_105 (by decide) ?_
            refine lv_imul hx hb dX2_decodeMany_107 ?_
            refine lv_topi (fun x_14 ex_14 => ?_)
            have tx_14 : x_14.toInt = x_8.toInt * 64 := v_mul ex_14 (by show -2147483648 ≤ x_8.toInt * 64; omega) (by show x_8.toInt * 64 < 2147483648; omega)
            refine lv_iload hx hb dX2_decodeMany_108 (lv_at hl 0 rfl) ?_
            refine lv_iadd hx hb dX2_decodeMany_110 ?_
            refine lv_topi (fun x_15 ex_15 => ?_)
            have tx_15 : x_15.toInt = x_14.toInt + r_11.toInt := v_add ex_15 (by show -2147483648 ≤ x_14.toInt + r_11.toInt; omega) (by show x_14.toInt + r_11.toInt < 2147483648; omega)
            refine lv_sipush (v := 128) hx hb dX2_decodeMany_111 (by decide) ?_
            refine lv_isub hx hb dX2_decodeMany_114 ?_
            refine lv_topi (fun x_16 ex_16 => ?_)
            have tx_16 : x_16.toInt = x_15.toInt - 128 := v_sub ex_16 (by show -2147483648 ≤ x_15.toInt - 128; omega) (by show x_15.toInt - 128 < 2147483648; omega)
            refine lv_istore (lv' := [(5, .int x_16), (7, .int r_11), (6, .int 1), (4, .int 2), (3, .int r_1), (0, .ref nu), (1, .int fr), (2, .int en)]) hx hb dX2_decodeMany_115 hl (by decide) rfl (fun ls hl => ?_)
            refine lv_iinc (v := 2) (lv' := [(6, .int 2), (5, .int x_16), (7, .int r_11), (4, .int 2), (3, .int r_1), (0, .ref nu), (1, .int fr), (2, .int en)]) hx hb dX2_decodeMany_117 hl (k := 2) rfl (by decide) (by decide) rfl (fun ls hl => ?_)
            refine lv_goto (tgt := 68) hx hb dX2_decodeMany_120 (by decide) ?_
            refine lv_iload hx hb dX2_decodeMany_68 (lv_at hl 0 rfl) ?_
            refine lv_iload hx hb dX2_decodeMany_70 (lv_at hl 3 rfl) ?_
            refine lv_icmp_ge (tgt := 123) hx hb dX2_decodeMany_72 (by decide) (fun c_17 => ?_) (fun c_17 => absurd c_17 (by decide))
            refine lv_iload hx hb dX2_decodeMany_123 (lv_at hl 1 rfl) ?_
            refine lv_iload hx hb dX2_decodeMany_125 (lv_at hl 3 rfl) ?_
            refine lv_iconst (v := 3) hx hb dX2_decodeMany_127 (by decide) ?_
            refine lv_icmp_ne (tgt := 137) hx hb dX2_decodeMany_128 (by decide) (fun c_18 => ?_) (fun c_18 => absurd c_18 (by decide))
            refine lv_sipush (v := 128) hx hb dX2_decodeMany_137 (by decide) ?_
            refine lv_icmp_lt (tgt := 147) hx hb dX2_decodeMany_140 (by decide) (fun c_19 => ?_) (fun c_19 => ?_)
            · have tc_19 : x_16.toInt < 128 := v_lt c_19
              refine lv_iconst (v := 0) hx hb dX2_decodeMany_147 (by decide) ?_
              refine lv_istore (lv' := [(6, .int 0), (5, .int x_16), (7, .int r_11), (4, .int 2), (3, .int r_1), (0, .ref nu), (1, .int fr), (2, .int en)]) hx hb dX2_decodeMany_148 hl (by decide) rfl (fun ls hl => ?_)
              refine lv_iload hx hb dX2_decodeMany_150 (lv_at hl 0 rfl) ?_
              refine lv_if_eq (tgt := 173) hx hb dX2_decodeMany_152 (by decide) (fun c_20 => ?_) (fun c_20 => absurd c_20 (by decide))
              refine lv_iconst (v := (-1)) hx hb dX2_decodeMany_173 (by decide) ?_
              have hP9 := hP.sub (ws' := [(nu, .inr (5, [.ref au, .int lu])), (au, .inl (cI, cap, .inl fu))]) [0, 1] rfl
              have hD9 := hD.sub (ws' := [(nu, .inr (5, [.ref au, .int lu])), (au, .inl (cI, cap, .inl fu))]) [0, 1] (by decide) rfl
              rw [hQQ]
              exact W.iret (v := (-1)) hx hb hr (fun t ht hW => ⟨⟨(-1), (-1), rfl, rfl, ⟨by rw [ht]; exact hP9, hD9, Or.inr ⟨rfl, fun l x h => by have o1 := bt_c fu en.toInt (fr.toNatClampNeg + 1); have o2 := bt_c fu en.toInt (fr.toNatClampNeg + 2); unfold DMa DM at h; omega⟩⟩⟩, hS.F ht⟩) hS.2.2 dX2_decodeMany_174
            · have tc_19 : 128 ≤ x_16.toInt := v_nlt c_19
              refine lv_iconst (v := 1) hx hb dX2_decodeMany_143 (by decide) ?_
              refine lv_goto (tgt := 148) hx hb dX2_decodeMany_144 (by decide) ?_
              refine lv_istore (lv' := [(6, .int 1), (5, .int x_16), (7, .int r_11), (4, .int 2), (3, .int r_1), (0, .ref nu), (1, .int fr), (2, .int en)]) hx hb dX2_decodeMany_148 hl (by decide) rfl (fun ls hl => ?_)
              refine lv_iload hx hb dX2_decodeMany_150 (lv_at hl 0 rfl) ?_
              refine lv_if_eq (tgt := 173) hx hb dX2_decodeMany_152 (by decide) (fun c_21 => absurd c_21 (by decide)) (fun c_21 => ?_)
              refine lv_iload hx hb dX2_decodeMany_155 (lv_at hl 1 rfl) ?_
              have hPc := hP.sub (ws' := []) [] rfl
              have hDc := hD.sub (ws' := []) [] (by decide) rfl
              have hFc := va_free (wc := []) hD hS hA [] rfl
              refine va_calli (va_runSN (As := [.int x_16]) (rest := []) ⟨hx, hb, hml, hown, hts⟩ (m_X11_isLetter l dC dI cI cS H.size x_16 ) ⟨va_cnB 1 hts gX2_decodeMany_X11_isLetter_n52 rfl rfl rfl hN52 (hts (.initialized RX11) (List.mem_of_getElem? (i := 9) rfl)) (by decide +kernel) ⟨Nat.le_of_ble_eq_true rfl, Nat.le_of_ble_eq_true rfl⟩, (hts (.static yX11_isLetter) (List.mem_of_getElem? (i := 8) rfl)), trivial⟩ ⟨fun a U g mk q => by obtain ⟨q0, q1, qP, qK, qD⟩ := q; exact ⟨q0, q1, qP, va_K.moved (u := U) (U := U.calling g mk a) (Vm.Alike.refl U.vm) qK, qD⟩, fun U hU hW => ⟨rfl, by rw [hU], by rw [hU]; exact hPc, va_K.moved hW.alike hK, hDc.weaken (fun _ _ _ _ => trivial)⟩⟩ rfl rfl hl.1 rfl (lv_room (Nat.le_of_ble_eq_true rfl)) dX2_decodeMany_157 ⟨Nat.le_of_ble_eq_true rfl, Nat.le_of_ble_eq_true rfl⟩) hS (fun q _ h => hFc q h) hFc (fun r_22 u t H1 locs ht hvm hw hB hz1 hk1 hS => ?_)
              subst hw
              obtain ⟨hP1, hD1, hf22_0, hf22_1⟩ := hB
              rw [ht] at hP1
              obtain ⟨hP, hD⟩ := va_join (wr := [(nu, .inr (5, [.ref au, .int lu])), (au, .inl (cI, cap, .inl fu))]) (w1 := []) hP hD [] [0, 1] rfl rfl (by decide) (by decide) hk1 hFc hP1 hD1
              generalize H1 = H at hP hS ⊢
              have hP : va_P (dC, dI) vwCl [(nu, .inr (5, [.ref au, .int lu])), (au, .inl (cI, cap, .inl fu))] H := hP
              have hD : va_D A [(nu, .inr (5, [.ref au, .int lu])), (au, .inl (cI, cap, .inl fu))] := hD
              refine lv_if_eq (tgt := 173) hx hb dX2_decodeMany_160 (by decide) (fun c_23 => ?_) (fun c_23 => ?_)
              · have tc_23 : r_22.toInt = 0 := v_eq c_23
                refine lv_iconst (v := (-1)) hx hb dX2_decodeMany_173 (by decide) ?_
                have hP9 := hP.sub (ws' := [(nu, .inr (5, [.ref au, .int lu])), (au, .inl (cI, cap, .inl fu))]) [0, 1] rfl
                have hD9 := hD.sub (ws' := [(nu, .inr (5, [.ref au, .int lu])), (au, .inl (cI, cap, .inl fu))]) [0, 1] (by decide) rfl
                rw [hQQ]
                exact W.iret (v := (-1)) hx hb hr (fun t ht hW => ⟨⟨(-1), (-1), rfl, rfl, ⟨by rw [ht]; exact hP9, hD9, Or.inr ⟨rfl, fun l x h => by have o1 := bt_c fu en.toInt (fr.toNatClampNeg + 1); have o2 := bt_c fu en.toInt (fr.toNatClampNeg + 2); unfold DMa DM at h; omega⟩⟩⟩, hS.F ht⟩) hS.2.2 dX2_decodeMany_174
              · have tc_23 : ¬ r_22.toInt = 0 := v_ne c_23
                refine lv_iload hx hb dX2_decodeMany_163 (lv_at hl 1 rfl) ?_
                refine lv_iload hx hb dX2_decodeMany_165 (lv_at hl 3 rfl) ?_
                have hPc := hP.sub (ws' := []) [] rfl
                have hDc := hD.sub (ws' := []) [] (by decide) rfl
                have hFc := va_free (wc := []) hD hS hA [] rfl
                refine va_calli (va_runS (As := [.int x_16, .int 2]) (rest := []) ⟨hx, hb, hml, hown, hts⟩ (f_X2_found l dC dI cI cS H.size x_16 2 (by omega) (by decide)) (va_cwS 2 hts gX2_decodeMany_X2_found rfl rfl rfl (by decide +kernel) ⟨Nat.le_of_ble_eq_true rfl, Nat.le_of_ble_eq_true rfl⟩) ⟨fun a U g mk q => by obtain ⟨q0, q1, qP, qK, qD⟩ := q; exact ⟨q0, q1, qP, va_K.moved (u := U) (U := U.calling g mk a) (Vm.Alike.refl U.vm) qK, qD⟩, fun U hU hW => ⟨rfl, by rw [hU], by rw [hU]; exact hPc, va_K.moved hW.alike hK, hDc.weaken (fun _ _ _ _ => trivial)⟩⟩ rfl rfl hl.1 rfl (lv_room (Nat.le_of_ble_eq_true rfl)) dX2_decodeMany_167 ⟨Nat.le_of_ble_eq_true rfl, Nat.le_of_ble_eq_true rfl⟩) hS (fun q _ h => hFc q h) hFc (fun r_24 u t H1 locs ht hvm hw hB hz1 hk1 hS => ?_)
                subst hw
                obtain ⟨hP1, hD1, hf24_0⟩ := hB
                rw [ht] at hP1
                obtain ⟨hP, hD⟩ := va_join (wr := [(nu, .inr (5, [.ref au, .int lu])), (au, .inl (cI, cap, .inl fu))]) (w1 := []) hP hD [] [0, 1] rfl rfl (by decide) (by decide) hk1 hFc hP1 hD1
                generalize H1 = H at hP hS ⊢
                have hP : va_P (dC, dI) vwCl [(nu, .inr (5, [.ref au, .int lu])), (au, .inl (cI, cap, .inl fu))] H := hP
                have hD : va_D A [(nu, .inr (5, [.ref au, .int lu])), (au, .inl (cI, cap, .inl fu))] := hD
                refine lv_goto (tgt := 174) hx hb dX2_decodeMany_170 (by decide) ?_
                have hP9 := hP.sub (ws' := [(nu, .inr (5, [.ref au, .int lu])), (au, .inl (cI, cap, .inl fu))]) [0, 1] rfl
                have hD9 := hD.sub (ws' := [(nu, .inr (5, [.ref au, .int lu])), (au, .inl (cI, cap, .inl fu))]) [0, 1] (by decide) rfl
                rw [hQQ]
                exact W.iret (v := r_24) hx hb hr (fun t ht hW => ⟨⟨r_24, r_24, rfl, rfl, ⟨by rw [ht]; exact hP9, hD9, Or.inl ⟨2, x_16, by unfold DMa DM; omega, by omega, by omega, by omega⟩⟩⟩, hS.F ht⟩) hS.2.2 dX2_decodeMany_174
          · have tc_13 : 191 < r_11.toInt := v_nle c_13
            refine lv_iconst (v := (-1)) hx hb dX2_decodeMany_101 (by decide) ?_
            have hP9 := hP.sub (ws' := [(nu, .inr (5, [.ref au, .int lu])), (au, .inl (cI, cap, .inl fu))]) [0, 1] rfl
            have hD9 := hD.sub (ws' := [(nu, .inr (5, [.ref au, .int lu])), (au, .inl (cI, cap, .inl fu))]) [0, 1] (by decide) rfl
            rw [hQQ]
            exact W.iret (v := (-1)) hx hb hr (fun t ht hW => ⟨⟨(-1), (-1), rfl, rfl, ⟨by rw [ht]; exact hP9, hD9, Or.inr ⟨rfl, fun l x h => by have o1 := bt_c fu en.toInt (fr.toNatClampNeg + 1); have o2 := bt_c fu en.toInt (fr.toNatClampNeg + 2); unfold DMa DM at h; omega⟩⟩⟩, hS.F ht⟩) hS.2.2 dX2_decodeMany_102
      · have tc_6 : x_5.toInt < 2 := v_nle c_6
        refine lv_iconst (v := (-1)) hx hb dX2_decodeMany_42 (by decide) ?_
        have hP9 := hP.sub (ws' := [(nu, .inr (5, [.ref au, .int lu])), (au, .inl (cI, cap, .inl fu))]) [0, 1] rfl
        have hD9 := hD.sub (ws' := [(nu, .inr (5, [.ref au, .int lu])), (au, .inl (cI, cap, .inl fu))]) [0, 1] (by decide) rfl
        rw [hQQ]
        exact W.iret (v := (-1)) hx hb hr (fun t ht hW => ⟨⟨(-1), (-1), rfl, rfl, ⟨by rw [ht]; exact hP9, hD9, Or.inr ⟨rfl, fun l x h => by have o1 := bt_c fu en.toInt (fr.toNatClampNeg + 1); have o2 := bt_c fu en.toInt (fr.toNatClampNeg + 2); unfold DMa DM at h; omega⟩⟩⟩, hS.F ht⟩) hS.2.2 dX2_decodeMany_43
  · have tc_2 : 224 ≤ r_1.toInt := v_nlt c_2
    refine lv_iconst (v := 3) hx hb dX2_decodeMany_13 (by decide) ?_
    refine lv_goto (tgt := 18) hx hb dX2_decodeMany_14 (by decide) ?_
    refine lv_istore (lv' := [(4, .int 3), (3, .int r_1), (0, .ref nu), (1, .int fr), (2, .int en)]) hx hb dX2_decodeMany_18 hl (by decide) rfl (fun ls hl => ?_)
    refine lv_iload_n hx hb dX2_decodeMany_20 rfl (lv_at hl 1 rfl) ?_
    refine lv_sipush (v := 192) hx hb dX2_decodeMany_21 (by decide) ?_
    refine lv_icmp_lt (tgt := 42) hx hb dX2_decodeMany_24 (by decide) (fun c_25 => by exfalso; have tc_25 : r_1.toInt < 192 := v_lt c_25; omega) (fun c_25 => ?_)
    have tc_25 : 192 ≤ r_1.toInt := v_nlt c_25
    refine lv_iload_n hx hb dX2_decodeMany_27 rfl (lv_at hl 1 rfl) ?_
    refine lv_sipush (v := 239) hx hb dX2_decodeMany_28 (by decide) ?_
    refine lv_icmp_gt (tgt := 42) hx hb dX2_decodeMany_31 (by decide) (fun c_26 => ?_) (fun c_26 => ?_)
    · have tc_26 : 239 < r_1.toInt := v_lt c_26
      refine lv_iconst (v := (-1)) hx hb dX2_decodeMany_42 (by decide) ?_
      have hP9 := hP.sub (ws' := [(nu, .inr (5, [.ref au, .int lu])), (au, .inl (cI, cap, .inl fu))]) [0, 1] rfl
      have hD9 := hD.sub (ws' := [(nu, .inr (5, [.ref au, .int lu])), (au, .inl (cI, cap, .inl fu))]) [0, 1] (by decide) rfl
      rw [hQQ]
      exact W.iret (v := (-1)) hx hb hr (fun t ht hW => ⟨⟨(-1), (-1), rfl, rfl, ⟨by rw [ht]; exact hP9, hD9, Or.inr ⟨rfl, fun l x h => by have o1 := bt_c fu en.toInt (fr.toNatClampNeg + 1); have o2 := bt_c fu en.toInt (fr.toNatClampNeg + 2); unfold DMa DM at h; omega⟩⟩⟩, hS.F ht⟩) hS.2.2 dX2_decodeMany_43
    · have tc_26 : r_1.toInt ≤ 239 := v_nlt c_26
      refine lv_iload hx hb dX2_decodeMany_34 (lv_at hl 0 rfl) ?_
      refine lv_iload_n hx hb dX2_decodeMany_36 rfl (lv_at hl 4 rfl) ?_
      refine lv_iload_n hx hb dX2_decodeMany_37 rfl (lv_at hl 3 rfl) ?_
      refine lv_isub hx hb dX2_decodeMany_38 ?_
      refine lv_topi (fun x_27 ex_27 => ?_)
      have tx_27 : x_27.toInt = en.toInt - fr.toInt := v_sub ex_27 (by show -2147483648 ≤ en.toInt - fr.toInt; omega) (by show en.toInt - fr.toInt < 2147483648; omega)
      refine lv_icmp_le (tgt := 44) hx hb dX2_decodeMany_39 (by decide) (fun c_28 => ?_) (fun c_28 => ?_)
      · have tc_28 : 3 ≤ x_27.toInt := v_le c_28
        refine lv_iload hx hb dX2_decodeMany_44 (lv_at hl 0 rfl) ?_
        refine lv_iconst (v := 3) hx hb dX2_decodeMany_46 (by decide) ?_
        refine lv_icmp_ne (tgt := 58) hx hb dX2_decodeMany_47 (by decide) (fun c_29 => absurd c_29 (by decide)) (fun c_29 => ?_)
        refine lv_iload_n hx hb dX2_decodeMany_50 rfl (lv_at hl 1 rfl) ?_
        refine lv_sipush (v := 224) hx hb dX2_decodeMany_51 (by decide) ?_
        refine lv_isub hx hb dX2_decodeMany_54 ?_
        refine lv_topi (fun x_30 ex_30 => ?_)
        have tx_30 : x_30.toInt = r_1.toInt - 224 := v_sub ex_30 (by show -2147483648 ≤ r_1.toInt - 224; omega) (by show r_1.toInt - 224 < 2147483648; omega)
        refine lv_goto (tgt := 63) hx hb dX2_decodeMany_55 (by decide) ?_
        refine lv_istore (lv' := [(5, .int x_30), (4, .int 3), (3, .int r_1), (0, .ref nu), (1, .int fr), (2, .int en)]) hx hb dX2_decodeMany_63 hl (by decide) rfl (fun ls hl => ?_)
        refine lv_iconst (v := 1) hx hb dX2_decodeMany_65 (by decide) ?_
        refine lv_istore (lv' := [(6, .int 1), (5, .int x_30), (4, .int 3), (3, .int r_1), (0, .ref nu), (1, .int fr), (2, .int en)]) hx hb dX2_decodeMany_66 hl (by decide) rfl (fun ls hl => ?_)
        refine lv_iload hx hb dX2_decodeMany_68 (lv_at hl 0 rfl) ?_
        refine lv_iload hx hb dX2_decodeMany_70 (lv_at hl 2 rfl) ?_
        refine lv_icmp_ge (tgt := 123) hx hb dX2_decodeMany_72 (by decide) (fun c_31 => absurd c_31 (by decide)) (fun c_31 => ?_)
        refine lv_aload_n hx hb dX2_decodeMany_75 rfl (lv_at hl 4 rfl) ?_
        refine lv_iload_n hx hb dX2_decodeMany_76 rfl (lv_at hl 5 rfl) ?_
        refine lv_iload hx hb dX2_decodeMany_77 (lv_at hl 0 rfl) ?_
        refine lv_iadd hx hb dX2_decodeMany_79 ?_
        refine lv_topi (fun x_32 ex_32 => ?_)
        have tx_32 : x_32.toInt = fr.toInt + 1 := v_add ex_32 (by show -2147483648 ≤ fr.toInt + 1; omega) (by show fr.toInt + 1 < 2147483648; omega)
        have hPc := hP.sub (ws' := [(nu, .inr (5, [.ref au, .int lu])), (au, .inl (cI, cap, .inl fu))]) [0, 1] rfl
        have hDc := hD.sub (ws' := [(nu, .inr (5, [.ref au, .int lu])), (au, .inl (cI, cap, .inl fu))]) [0, 1] (by decide) rfl
        have hFc := va_free (wc := [(nu, .inr (5, [.ref au, .int lu])), (au, .inl (cI, cap, .inl fu))]) hD hS hA [0, 1] rfl
        refine va_calli (va_runV (As := [.int x_32]) (rest := []) ⟨hx, hb, hml, hown, hts⟩ (m_X5_get l dC dI cI cS H.size nu au cap lu fu x_32 (by omega) (by omega)) (cwV 1 hts gX2_decodeMany_X5_get rfl rfl rfl (by decide +kernel) ⟨Nat.le_of_ble_eq_true rfl, Nat.le_of_ble_eq_true rfl⟩) ⟨fun a U g mk q => by obtain ⟨q0, q1, qP, qK, qD⟩ := q; exact ⟨q0, q1, qP, va_K.moved (u := U) (U := U.calling g mk a) (Vm.Alike.refl U.vm) qK, qD⟩, va_recv hK hPc (ci := 5) (q0 := 0) rfl rfl, fun U hU hW => ⟨rfl, by rw [hU], by rw [hU]; exact hPc, va_K.moved hW.alike hK, hDc.weaken (fun _ _ _ _ => trivial)⟩⟩ rfl rfl hl.1 rfl (lv_room (Nat.le_of_ble_eq_true rfl)) dX2_decodeMany_80 ⟨Nat.le_of_ble_eq_true rfl, Nat.le_of_ble_eq_true rfl⟩) hS (fun q _ h => hFc q h) hFc (fun r_33 u t H1 locs ht hvm hw hB hz1 hk1 hS => ?_)
        subst hw
        obtain ⟨hP1, hD1, hf33_0⟩ := hB
        rw [ht] at hP1
        obtain ⟨hP, hD⟩ := va_join (wr := []) (w1 := [(nu, .inr (5, [.ref au, .int lu])), (au, .inl (cI, cap, .inl fu))]) hP hD [0, 1] [] rfl rfl (by decide) (by decide) hk1 hFc hP1 hD1
        generalize H1 = H at hP hS ⊢
        have hP : va_P (dC, dI) vwCl [(nu, .inr (5, [.ref au, .int lu])), (au, .inl (cI, cap, .inl fu))] H := hP
        have hD : va_D A [(nu, .inr (5, [.ref au, .int lu])), (au, .inl (cI, cap, .inl fu))] := hD
        have hb33 : r_33.toInt = bt fu en.toInt (fr.toNatClampNeg + 1) := get_bt (k := fr.toNatClampNeg + 1) hf33_0 (by omega) (by omega) hen
        refine lv_istore (lv' := [(7, .int r_33), (6, .int 1), (5, .int x_30), (4, .int 3), (3, .int r_1), (0, .ref nu), (1, .int fr), (2, .int en)]) hx hb dX2_decodeMany_83 hl (by decide) rfl (fun ls hl => ?_)
        refine lv_iload hx hb dX2_decodeMany_85 (lv_at hl 0 rfl) ?_
        refine lv_sipush (v := 128) hx hb dX2_decodeMany_87 (by decide) ?_
        refine lv_icmp_lt (tgt := 101) hx hb dX2_decodeMany_90 (by decide) (fun c_34 => ?_) (fun c_34 => ?_)
        · have tc_34 : r_33.toInt < 128 := v_lt c_34
          refine lv_iconst (v := (-1)) hx hb dX2_decodeMany_101 (by decide) ?_
          have hP9 := hP.sub (ws' := [(nu, .inr (5, [.ref au, .int lu])), (au, .inl (cI, cap, .inl fu))]) [0, 1] rfl
          have hD9 := hD.sub (ws' := [(nu, .inr (5, [.ref au, .int lu])), (au, .inl (cI, cap, .inl fu))]) [0, 1] (by decide) rfl
          rw [hQQ]
          exact W.iret (v := (-1)) hx hb hr (fun t ht hW => ⟨⟨(-1), (-1), rfl, rfl, ⟨by rw [ht]; exact hP9, hD9, Or.inr ⟨rfl, fun l x h => by have o1 := bt_c fu en.toInt (fr.toNatClampNeg + 1); have o2 := bt_c fu en.toInt (fr.toNatClampNeg + 2); unfold DMa DM at h; omega⟩⟩⟩, hS.F ht⟩) hS.2.2 dX2_decodeMany_102
        · have tc_34 : 128 ≤ r_33.toInt := v_nlt c_34
          refine lv_iload hx hb dX2_decodeMany_93 (lv_at hl 0 rfl) ?_
          refine lv_sipush (v := 191) hx hb dX2_decodeMany_95 (by decide) ?_
          refine lv_icmp_le (tgt := 103) hx hb dX2_decodeMany_98 (by decide) (fun c_35 => ?_) (fun c_35 => ?_)
          · have tc_35 : r_33.toInt ≤ 191 := v_le c_35
            refine lv_iload hx hb dX2_decodeMany_103 (lv_at hl 2 rfl) ?_
            refine lv_bipush (v := 64) hx hb dX2_decodeMany_105 (by decide) ?_
            refine lv_imul hx hb dX2_decodeMany_107 ?_
            refine lv_topi (fun x_36 ex_36 => ?_)
            have tx_36 : x_36.toInt = x_30.toInt * 64 := v_mul ex_36 (by show -2147483648 ≤ x_30.toInt * 64; omega) (by show x_30.toInt * 64 < 2147483648; omega)
            refine lv_iload hx hb dX2_decodeMany_108 (lv_at hl 0 rfl) ?_
            refine lv_iadd hx hb dX2_decodeMany_110 ?_
            refine lv_topi (fun x_37 ex_37 => ?_)
            have tx_37 : x_37.toInt = x_36.toInt + r_33.toInt := v_add ex_37 (by show -2147483648 ≤ x_36.toInt + r_33.toInt; omega) (by show x_36.toInt + r_33.toInt < 2147483648; omega)
            refine lv_sipush (v := 128) hx hb dX2_decodeMany_111 (by decide) ?_
            refine lv_isub hx hb dX2_decodeMany_114 ?_
            refine lv_topi (fun x_38 ex_38 => ?_)
            have tx_38 : x_38.toInt = x_37.toInt - 128 := v_sub ex_38 (by show -2147483648 ≤ x_37.toInt - 128; omega) (by show x_37.toInt - 128 < 2147483648; omega)
            refine lv_istore (lv' := [(5, .int x_38), (7, .int r_33), (6, .int 1), (4, .int 3), (3, .int r_1), (0, .ref nu), (1, .int fr), (2, .int en)]) hx hb dX2_decodeMany_115 hl (by decide) rfl (fun ls hl => ?_)
            refine lv_iinc (v := 2) (lv' := [(6, .int 2), (5, .int x_38), (7, .int r_33), (4, .int 3), (3, .int r_1), (0, .ref nu), (1, .int fr), (2, .int en)]) hx hb dX2_decodeMany_117 hl (k := 2) rfl (by decide) (by decide) rfl (fun ls hl => ?_)
            refine lv_goto (tgt := 68) hx hb dX2_decodeMany_120 (by decide) ?_
            refine lv_iload hx hb dX2_decodeMany_68 (lv_at hl 0 rfl) ?_
            refine lv_iload hx hb dX2_decodeMany_70 (lv_at hl 3 rfl) ?_
            refine lv_icmp_ge (tgt := 123) hx hb dX2_decodeMany_72 (by decide) (fun c_39 => absurd c_39 (by decide)) (fun c_39 => ?_)
            refine lv_aload_n hx hb dX2_decodeMany_75 rfl (lv_at hl 5 rfl) ?_
            refine lv_iload_n hx hb dX2_decodeMany_76 rfl (lv_at hl 6 rfl) ?_
            refine lv_iload hx hb dX2_decodeMany_77 (lv_at hl 0 rfl) ?_
            refine lv_iadd hx hb dX2_decodeMany_79 ?_
            refine lv_topi (fun x_40 ex_40 => ?_)
            have tx_40 : x_40.toInt = fr.toInt + 2 := v_add ex_40 (by show -2147483648 ≤ fr.toInt + 2; omega) (by show fr.toInt + 2 < 2147483648; omega)
            have hPc := hP.sub (ws' := [(nu, .inr (5, [.ref au, .int lu])), (au, .inl (cI, cap, .inl fu))]) [0, 1] rfl
            have hDc := hD.sub (ws' := [(nu, .inr (5, [.ref au, .int lu])), (au, .inl (cI, cap, .inl fu))]) [0, 1] (by decide) rfl
            have hFc := va_free (wc := [(nu, .inr (5, [.ref au, .int lu])), (au, .inl (cI, cap, .inl fu))]) hD hS hA [0, 1] rfl
            refine va_calli (va_runV (As := [.int x_40]) (rest := []) ⟨hx, hb, hml, hown, hts⟩ (m_X5_get l dC dI cI cS H.size nu au cap lu fu x_40 (by omega) (by omega)) (cwV 1 hts gX2_decodeMany_X5_get rfl rfl rfl (by decide +kernel) ⟨Nat.le_of_ble_eq_true rfl, Nat.le_of_ble_eq_true rfl⟩) ⟨fun a U g mk q => by obtain ⟨q0, q1, qP, qK, qD⟩ := q; exact ⟨q0, q1, qP, va_K.moved (u := U) (U := U.calling g mk a) (Vm.Alike.refl U.vm) qK, qD⟩, va_recv hK hPc (ci := 5) (q0 := 0) rfl rfl, fun U hU hW => ⟨rfl, by rw [hU], by rw [hU]; exact hPc, va_K.moved hW.alike hK, hDc.weaken (fun _ _ _ _ => trivial)⟩⟩ rfl rfl hl.1 rfl (lv_room (Nat.le_of_ble_eq_true rfl)) dX2_decodeMany_80 ⟨Nat.le_of_ble_eq_true rfl, Nat.le_of_ble_eq_true rfl⟩) hS (fun q _ h => hFc q h) hFc (fun r_41 u t H1 locs ht hvm hw hB hz1 hk1 hS => ?_)
            subst hw
            obtain ⟨hP1, hD1, hf41_0⟩ := hB
            rw [ht] at hP1
            obtain ⟨hP, hD⟩ := va_join (wr := []) (w1 := [(nu, .inr (5, [.ref au, .int lu])), (au, .inl (cI, cap, .inl fu))]) hP hD [0, 1] [] rfl rfl (by decide) (by decide) hk1 hFc hP1 hD1
            generalize H1 = H at hP hS ⊢
            have hP : va_P (dC, dI) vwCl [(nu, .inr (5, [.ref au, .int lu])), (au, .inl (cI, cap, .inl fu))] H := hP
            have hD : va_D A [(nu, .inr (5, [.ref au, .int lu])), (au, .inl (cI, cap, .inl fu))] := hD
            have hb41 : r_41.toInt = bt fu en.toInt (fr.toNatClampNeg + 2) := get_bt (k := fr.toNatClampNeg + 2) hf41_0 (by omega) (by omega) hen
            refine lv_istore (lv' := [(7, .int r_41), (6, .int 2), (5, .int x_38), (4, .int 3), (3, .int r_1), (0, .ref nu), (1, .int fr), (2, .int en)]) hx hb dX2_decodeMany_83 hl (by decide) rfl (fun ls hl => ?_)
            refine lv_iload hx hb dX2_decodeMany_85 (lv_at hl 0 rfl) ?_
            refine lv_sipush (v := 128) hx hb dX2_decodeMany_87 (by decide) ?_
            refine lv_icmp_lt (tgt := 101) hx hb dX2_decodeMany_90 (by decide) (fun c_42 => ?_) (fun c_42 => ?_)
            · have tc_42 : r_41.toInt < 128 := v_lt c_42
              refine lv_iconst (v := (-1)) hx hb dX2_decodeMany_101 (by decide) ?_
              have hP9 := hP.sub (ws' := [(nu, .inr (5, [.ref au, .int lu])), (au, .inl (cI, cap, .inl fu))]) [0, 1] rfl
              have hD9 := hD.sub (ws' := [(nu, .inr (5, [.ref au, .int lu])), (au, .inl (cI, cap, .inl fu))]) [0, 1] (by decide) rfl
              rw [hQQ]
              exact W.iret (v := (-1)) hx hb hr (fun t ht hW => ⟨⟨(-1), (-1), rfl, rfl, ⟨by rw [ht]; exact hP9, hD9, Or.inr ⟨rfl, fun l x h => by have o1 := bt_c fu en.toInt (fr.toNatClampNeg + 1); have o2 := bt_c fu en.toInt (fr.toNatClampNeg + 2); unfold DMa DM at h; omega⟩⟩⟩, hS.F ht⟩) hS.2.2 dX2_decodeMany_102
            · have tc_42 : 128 ≤ r_41.toInt := v_nlt c_42
              refine lv_iload hx hb dX2_decodeMany_93 (lv_at hl 0 rfl) ?_
              refine lv_sipush (v := 191) hx hb dX2_decodeMany_95 (by decide) ?_
              refine lv_icmp_le (tgt := 103) hx hb dX2_decodeMany_98 (by decide) (fun c_43 => ?_) (fun c_43 => ?_)
              · have tc_43 : r_41.toInt ≤ 191 := v_le c_43
                refine lv_iload hx hb dX2_decodeMany_103 (lv_at hl 2 rfl) ?_
                refine lv_bipush (v := 64) hx hb dX2_decodeMany_105 (by decide) ?_
                refine lv_imul hx hb dX2_decodeMany_107 ?_
                refine lv_topi (fun x_44 ex_44 => ?_)
                have tx_44 : x_44.toInt = x_38.toInt * 64 := v_mul ex_44 (by show -2147483648 ≤ x_38.toInt * 64; omega) (by show x_38.toInt * 64 < 2147483648; omega)
                refine lv_iload hx hb dX2_decodeMany_108 (lv_at hl 0 rfl) ?_
                refine lv_iadd hx hb dX2_decodeMany_110 ?_
                refine lv_topi (fun x_45 ex_45 => ?_)
                have tx_45 : x_45.toInt = x_44.toInt + r_41.toInt := v_add ex_45 (by show -2147483648 ≤ x_44.toInt + r_41.toInt; omega) (by show x_44.toInt + r_41.toInt < 2147483648; omega)
                refine lv_sipush (v := 128) hx hb dX2_decodeMany_111 (by decide) ?_
                refine lv_isub hx hb dX2_decodeMany_114 ?_
                refine lv_topi (fun x_46 ex_46 => ?_)
                have tx_46 : x_46.toInt = x_45.toInt - 128 := v_sub ex_46 (by show -2147483648 ≤ x_45.toInt - 128; omega) (by show x_45.toInt - 128 < 2147483648; omega)
                refine lv_istore (lv' := [(5, .int x_46), (7, .int r_41), (6, .int 2), (4, .int 3), (3, .int r_1), (0, .ref nu), (1, .int fr), (2, .int en)]) hx hb dX2_decodeMany_115 hl (by decide) rfl (fun ls hl => ?_)
                refine lv_iinc (v := 3) (lv' := [(6, .int 3), (5, .int x_46), (7, .int r_41), (4, .int 3), (3, .int r_1), (0, .ref nu), (1, .int fr), (2, .int en)]) hx hb dX2_decodeMany_117 hl (k := 2) rfl (by decide) (by decide) rfl (fun ls hl => ?_)
                refine lv_goto (tgt := 68) hx hb dX2_decodeMany_120 (by decide) ?_
                refine lv_iload hx hb dX2_decodeMany_68 (lv_at hl 0 rfl) ?_
                refine lv_iload hx hb dX2_decodeMany_70 (lv_at hl 3 rfl) ?_
                refine lv_icmp_ge (tgt := 123) hx hb dX2_decodeMany_72 (by decide) (fun c_47 => ?_) (fun c_47 => absurd c_47 (by decide))
                refine lv_iload hx hb dX2_decodeMany_123 (lv_at hl 1 rfl) ?_
                refine lv_iload hx hb dX2_decodeMany_125 (lv_at hl 3 rfl) ?_
                refine lv_iconst (v := 3) hx hb dX2_decodeMany_127 (by decide) ?_
                refine lv_icmp_ne (tgt := 137) hx hb dX2_decodeMany_128 (by decide) (fun c_48 => absurd c_48 (by decide)) (fun c_48 => ?_)
                refine lv_sipush (v := 2048) hx hb dX2_decodeMany_131 (by decide) ?_
                refine lv_goto (tgt := 140) hx hb dX2_decodeMany_134 (by decide) ?_
                refine lv_icmp_lt (tgt := 147) hx hb dX2_decodeMany_140 (by decide) (fun c_49 => ?_) (fun c_49 => ?_)
                · have tc_49 : x_46.toInt < 2048 := v_lt c_49
                  refine lv_iconst (v := 0) hx hb dX2_decodeMany_147 (by decide) ?_
                  refine lv_istore (lv' := [(6, .int 0), (5, .int x_46), (7, .int r_41), (4, .int 3), (3, .int r_1), (0, .ref nu), (1, .int fr), (2, .int en)]) hx hb dX2_decodeMany_148 hl (by decide) rfl (fun ls hl => ?_)
                  refine lv_iload hx hb dX2_decodeMany_150 (lv_at hl 0 rfl) ?_
                  refine lv_if_eq (tgt := 173) hx hb dX2_decodeMany_152 (by decide) (fun c_50 => ?_) (fun c_50 => absurd c_50 (by decide))
                  refine lv_iconst (v := (-1)) hx hb dX2_decodeMany_173 (by decide) ?_
                  have hP9 := hP.sub (ws' := [(nu, .inr (5, [.ref au, .int lu])), (au, .inl (cI, cap, .inl fu))]) [0, 1] rfl
                  have hD9 := hD.sub (ws' := [(nu, .inr (5, [.ref au, .int lu])), (au, .inl (cI, cap, .inl fu))]) [0, 1] (by decide) rfl
                  rw [hQQ]
                  exact W.iret (v := (-1)) hx hb hr (fun t ht hW => ⟨⟨(-1), (-1), rfl, rfl, ⟨by rw [ht]; exact hP9, hD9, Or.inr ⟨rfl, fun l x h => by have o1 := bt_c fu en.toInt (fr.toNatClampNeg + 1); have o2 := bt_c fu en.toInt (fr.toNatClampNeg + 2); unfold DMa DM at h; omega⟩⟩⟩, hS.F ht⟩) hS.2.2 dX2_decodeMany_174
                · have tc_49 : 2048 ≤ x_46.toInt := v_nlt c_49
                  refine lv_iconst (v := 1) hx hb dX2_decodeMany_143 (by decide) ?_
                  refine lv_goto (tgt := 148) hx hb dX2_decodeMany_144 (by decide) ?_
                  refine lv_istore (lv' := [(6, .int 1), (5, .int x_46), (7, .int r_41), (4, .int 3), (3, .int r_1), (0, .ref nu), (1, .int fr), (2, .int en)]) hx hb dX2_decodeMany_148 hl (by decide) rfl (fun ls hl => ?_)
                  refine lv_iload hx hb dX2_decodeMany_150 (lv_at hl 0 rfl) ?_
                  refine lv_if_eq (tgt := 173) hx hb dX2_decodeMany_152 (by decide) (fun c_51 => absurd c_51 (by decide)) (fun c_51 => ?_)
                  refine lv_iload hx hb dX2_decodeMany_155 (lv_at hl 1 rfl) ?_
                  have hPc := hP.sub (ws' := []) [] rfl
                  have hDc := hD.sub (ws' := []) [] (by decide) rfl
                  have hFc := va_free (wc := []) hD hS hA [] rfl
                  refine va_calli (va_runSN (As := [.int x_46]) (rest := []) ⟨hx, hb, hml, hown, hts⟩ (m_X11_isLetter l dC dI cI cS H.size x_46 ) ⟨va_cnB 1 hts gX2_decodeMany_X11_isLetter_n52 rfl rfl rfl hN52 (hts (.initialized RX11) (List.mem_of_getElem? (i := 9) rfl)) (by decide +kernel) ⟨Nat.le_of_ble_eq_true rfl, Nat.le_of_ble_eq_true rfl⟩, (hts (.static yX11_isLetter) (List.mem_of_getElem? (i := 8) rfl)), trivial⟩ ⟨fun a U g mk q => by obtain ⟨q0, q1, qP, qK, qD⟩ := q; exact ⟨q0, q1, qP, va_K.moved (u := U) (U := U.calling g mk a) (Vm.Alike.refl U.vm) qK, qD⟩, fun U hU hW => ⟨rfl, by rw [hU], by rw [hU]; exact hPc, va_K.moved hW.alike hK, hDc.weaken (fun _ _ _ _ => trivial)⟩⟩ rfl rfl hl.1 rfl (lv_room (Nat.le_of_ble_eq_true rfl)) dX2_decodeMany_157 ⟨Nat.le_of_ble_eq_true rfl, Nat.le_of_ble_eq_true rfl⟩) hS (fun q _ h => hFc q h) hFc (fun r_52 u t H1 locs ht hvm hw hB hz1 hk1 hS => ?_)
                  subst hw
                  obtain ⟨hP1, hD1, hf52_0, hf52_1⟩ := hB
                  rw [ht] at hP1
                  obtain ⟨hP, hD⟩ := va_join (wr := [(nu, .inr (5, [.ref au, .int lu])), (au, .inl (cI, cap, .inl fu))]) (w1 := []) hP hD [] [0, 1] rfl rfl (by decide) (by decide) hk1 hFc hP1 hD1
                  generalize H1 = H at hP hS ⊢
                  have hP : va_P (dC, dI) vwCl [(nu, .inr (5, [.ref au, .int lu])), (au, .inl (cI, cap, .inl fu))] H := hP
                  have hD : va_D A [(nu, .inr (5, [.ref au, .int lu])), (au, .inl (cI, cap, .inl fu))] := hD
                  refine lv_if_eq (tgt := 173) hx hb dX2_decodeMany_160 (by decide) (fun c_53 => ?_) (fun c_53 => ?_)
                  · have tc_53 : r_52.toInt = 0 := v_eq c_53
                    refine lv_iconst (v := (-1)) hx hb dX2_decodeMany_173 (by decide) ?_
                    have hP9 := hP.sub (ws' := [(nu, .inr (5, [.ref au, .int lu])), (au, .inl (cI, cap, .inl fu))]) [0, 1] rfl
                    have hD9 := hD.sub (ws' := [(nu, .inr (5, [.ref au, .int lu])), (au, .inl (cI, cap, .inl fu))]) [0, 1] (by decide) rfl
                    rw [hQQ]
                    exact W.iret (v := (-1)) hx hb hr (fun t ht hW => ⟨⟨(-1), (-1), rfl, rfl, ⟨by rw [ht]; exact hP9, hD9, Or.inr ⟨rfl, fun l x h => by have o1 := bt_c fu en.toInt (fr.toNatClampNeg + 1); have o2 := bt_c fu en.toInt (fr.toNatClampNeg + 2); unfold DMa DM at h; omega⟩⟩⟩, hS.F ht⟩) hS.2.2 dX2_decodeMany_174
                  · have tc_53 : ¬ r_52.toInt = 0 := v_ne c_53
                    refine lv_iload hx hb dX2_decodeMany_163 (lv_at hl 1 rfl) ?_
                    refine lv_iload hx hb dX2_decodeMany_165 (lv_at hl 3 rfl) ?_
                    have hPc := hP.sub (ws' := []) [] rfl
                    have hDc := hD.sub (ws' := []) [] (by decide) rfl
                    have hFc := va_free (wc := []) hD hS hA [] rfl
                    refine va_calli (va_runS (As := [.int x_46, .int 3]) (rest := []) ⟨hx, hb, hml, hown, hts⟩ (f_X2_found l dC dI cI cS H.size x_46 3 (by omega) (by decide)) (va_cwS 2 hts gX2_decodeMany_X2_found rfl rfl rfl (by decide +kernel) ⟨Nat.le_of_ble_eq_true rfl, Nat.le_of_ble_eq_true rfl⟩) ⟨fun a U g mk q => by obtain ⟨q0, q1, qP, qK, qD⟩ := q; exact ⟨q0, q1, qP, va_K.moved (u := U) (U := U.calling g mk a) (Vm.Alike.refl U.vm) qK, qD⟩, fun U hU hW => ⟨rfl, by rw [hU], by rw [hU]; exact hPc, va_K.moved hW.alike hK, hDc.weaken (fun _ _ _ _ => trivial)⟩⟩ rfl rfl hl.1 rfl (lv_room (Nat.le_of_ble_eq_true rfl)) dX2_decodeMany_167 ⟨Nat.le_of_ble_eq_true rfl, Nat.le_of_ble_eq_true rfl⟩) hS (fun q _ h => hFc q h) hFc (fun r_54 u t H1 locs ht hvm hw hB hz1 hk1 hS => ?_)
                    subst hw
                    obtain ⟨hP1, hD1, hf54_0⟩ := hB
                    rw [ht] at hP1
                    obtain ⟨hP, hD⟩ := va_join (wr := [(nu, .inr (5, [.ref au, .int lu])), (au, .inl (cI, cap, .inl fu))]) (w1 := []) hP hD [] [0, 1] rfl rfl (by decide) (by decide) hk1 hFc hP1 hD1
                    generalize H1 = H at hP hS ⊢
                    have hP : va_P (dC, dI) vwCl [(nu, .inr (5, [.ref au, .int lu])), (au, .inl (cI, cap, .inl fu))] H := hP
                    have hD : va_D A [(nu, .inr (5, [.ref au, .int lu])), (au, .inl (cI, cap, .inl fu))] := hD
                    refine lv_goto (tgt := 174) hx hb dX2_decodeMany_170 (by decide) ?_
                    have hP9 := hP.sub (ws' := [(nu, .inr (5, [.ref au, .int lu])), (au, .inl (cI, cap, .inl fu))]) [0, 1] rfl
                    have hD9 := hD.sub (ws' := [(nu, .inr (5, [.ref au, .int lu])), (au, .inl (cI, cap, .inl fu))]) [0, 1] (by decide) rfl
                    rw [hQQ]
                    exact W.iret (v := r_54) hx hb hr (fun t ht hW => ⟨⟨r_54, r_54, rfl, rfl, ⟨by rw [ht]; exact hP9, hD9, Or.inl ⟨3, x_46, by unfold DMa DM; omega, by omega, by omega, by omega⟩⟩⟩, hS.F ht⟩) hS.2.2 dX2_decodeMany_174
              · have tc_43 : 191 < r_41.toInt := v_nle c_43
                refine lv_iconst (v := (-1)) hx hb dX2_decodeMany_101 (by decide) ?_
                have hP9 := hP.sub (ws' := [(nu, .inr (5, [.ref au, .int lu])), (au, .inl (cI, cap, .inl fu))]) [0, 1] rfl
                have hD9 := hD.sub (ws' := [(nu, .inr (5, [.ref au, .int lu])), (au, .inl (cI, cap, .inl fu))]) [0, 1] (by decide) rfl
                rw [hQQ]
                exact W.iret (v := (-1)) hx hb hr (fun t ht hW => ⟨⟨(-1), (-1), rfl, rfl, ⟨by rw [ht]; exact hP9, hD9, Or.inr ⟨rfl, fun l x h => by have o1 := bt_c fu en.toInt (fr.toNatClampNeg + 1); have o2 := bt_c fu en.toInt (fr.toNatClampNeg + 2); unfold DMa DM at h; omega⟩⟩⟩, hS.F ht⟩) hS.2.2 dX2_decodeMany_102
          · have tc_35 : 191 < r_33.toInt := v_nle c_35
            refine lv_iconst (v := (-1)) hx hb dX2_decodeMany_101 (by decide) ?_
            have hP9 := hP.sub (ws' := [(nu, .inr (5, [.ref au, .int lu])), (au, .inl (cI, cap, .inl fu))]) [0, 1] rfl
            have hD9 := hD.sub (ws' := [(nu, .inr (5, [.ref au, .int lu])), (au, .inl (cI, cap, .inl fu))]) [0, 1] (by decide) rfl
            rw [hQQ]
            exact W.iret (v := (-1)) hx hb hr (fun t ht hW => ⟨⟨(-1), (-1), rfl, rfl, ⟨by rw [ht]; exact hP9, hD9, Or.inr ⟨rfl, fun l x h => by have o1 := bt_c fu en.toInt (fr.toNatClampNeg + 1); have o2 := bt_c fu en.toInt (fr.toNatClampNeg + 2); unfold DMa DM at h; omega⟩⟩⟩, hS.F ht⟩) hS.2.2 dX2_decodeMany_102
      · have tc_28 : x_27.toInt < 3 := v_nle c_28
        refine lv_iconst (v := (-1)) hx hb dX2_decodeMany_42 (by decide) ?_
        have hP9 := hP.sub (ws' := [(nu, .inr (5, [.ref au, .int lu])), (au, .inl (cI, cap, .inl fu))]) [0, 1] rfl
        have hD9 := hD.sub (ws' := [(nu, .inr (5, [.ref au, .int lu])), (au, .inl (cI, cap, .inl fu))]) [0, 1] (by decide) rfl
        rw [hQQ]
        exact W.iret (v := (-1)) hx hb hr (fun t ht hW => ⟨⟨(-1), (-1), rfl, rfl, ⟨by rw [ht]; exact hP9, hD9, Or.inr ⟨rfl, fun l x h => by have o1 := bt_c fu en.toInt (fr.toNatClampNeg + 1); have o2 := bt_c fu en.toInt (fr.toNatClampNeg + 2); unfold DMa DM at h; omega⟩⟩⟩, hS.F ht⟩) hS.2.2 dX2_decodeMany_43

set_option maxHeartbeats 40000000 in
set_option maxRecDepth 100000 in
theorem f_X2_decodeNumber (l : Launch) (dC : Nat → ClassId) (dI : Nat → Nat → Nat) (cI cS : ClassId) (sz : Nat) (nu : Nat) (au : Nat) (cap : Nat) (lu : Int32) (fu : Nat → Int32) (fr : Int32) (en : Int32) (g_lu : 0 ≤ lu.toInt ∧ lu.toInt ≤ (cap : Int)) (g_fr : 0 ≤ fr.toInt ∧ fr.toInt ≤ 2400) (hcap : cap ≤ 2400) (hen : en.toInt ≤ lu.toInt) (hfe : fr.toInt < en.toInt) : Met l yX2_decodeNumber wsX2_decodeNumber ({ frames := 1, cells := 0, slots := 0, locals := 21 } : Room) (va_Pc [.ref nu, .int fr, .int en] (fun U => U.heap.size = sz ∧ va_P (dC, dI) vwCl [(nu, .inr (5, [.ref au, .int lu])), (au, .inl (cI, cap, .inl fu))] U.heap ∧ va_K (dC, dI) vwCl [(cI, .int), (cS, .short)] U ∧ va_D (fun _ => True) [(nu, .inr (5, [.ref au, .int lu])), (au, .inl (cI, cap, .inl fu))] ∧ va_Nw (.methodLinkNest RX2 52 yX11_isLetter "TextMender") U)) (va_Qi (fun (r : Int32) (u : Int32) => r = u) (fun (r : Int32) t => va_P (dC, dI) vwCl [(nu, .inr (5, [.ref au, .int lu])), (au, .inl (cI, cap, .inl fu))] t.heap ∧ va_D (va_A [(nu, .inr (5, [.ref au, .int lu])), (au, .inl (cI, cap, .inl fu))] sz) [(nu, .inr (5, [.ref au, .int lu])), (au, .inl (cI, cap, .inl fu))] ∧ (F_dn r fu en.toInt fr.toNatClampNeg)) (va_A [(nu, .inr (5, [.ref au, .int lu])), (au, .inl (cI, cap, .inl fu))] sz)) 0 0 (va_A [(nu, .inr (5, [.ref au, .int lu])), (au, .inl (cI, cap, .inl fu))] sz) := by
  refine Met.ofW (cc := cX2_decodeNumber) (maxL := 7) (ret := (some .int)) (by decide) rfl ?_
  intro p e s m args below meth c s₁ B hml hv
  obtain ⟨rfl, hsz, hP, hK, hD0, hN52⟩ := hv
  have hx := B.exec
  have hb := B.bytes
  have hr := B.returns
  have hts := atoms_spec (ws := wsX2_decodeNumber) B.pre
  have hown : s.vm.findClass RX2 = some m.cls := findClass_of_methodNamed B.named
  have hlocks := B.notSynchronized
  subst hsz
  have hD := hD0.self (sz := s.heap.size)
  generalize hAe : va_A [(nu, .inr (5, [.ref au, .int lu])), (au, .inl (cI, cap, .inl fu))] s.heap.size = A at hD ⊢
  have hA : ∀ q : Nat, s.heap.size ≤ q → A q := fun q h => by rw [← hAe]; exact Or.inr h
  have hS : va_S A s.heap s.heap [] := va_S.rf
  have hP : va_P (dC, dI) vwCl [(nu, .inr (5, [.ref au, .int lu])), (au, .inl (cI, cap, .inl fu))] s.heap := hP
  have hl := lv_entry ([.ref nu, .int fr, .int en]) (n := 7) (Nat.le_of_ble_eq_true rfl)
  rw [lg_entry_eq]
  generalize (lg_sl ([.ref nu, .int fr, .int en]) ++ List.replicate (7 - (lg_sl ([.ref nu, .int fr, .int en])).length) Slot.unset).toArray = ls at hl ⊢
  have hl : lv_has ls 7 [(0, .ref nu), (1, .int fr), (2, .int en)] := hl
  obtain ⟨QQ, hQQ⟩ : ∃ QQ : Array Value → State → Outcome → State → Prop, QQ = va_Qi (fun (r : Int32) (u : Int32) => r = u) (fun (r : Int32) t => va_P (dC, dI) vwCl [(nu, .inr (5, [.ref au, .int lu])), (au, .inl (cI, cap, .inl fu))] t.heap ∧ va_D A [(nu, .inr (5, [.ref au, .int lu])), (au, .inl (cI, cap, .inl fu))] ∧ (F_dn r fu en.toInt fr.toNatClampNeg)) A := ⟨_, rfl⟩
  rw [← hQQ]
  have c0 := v_clamp (x := fr) (by omega)
  have z0 : (0 : Int32).toInt = 0 := rfl
  have z1 : (1 : Int32).toInt = 1 := rfl
  have z2 : (2 : Int32).toInt = 2 := rfl
  have z3 : (3 : Int32).toInt = 3 := rfl
  refine lv_aload_n hx hb dX2_decodeNumber_0 rfl (lv_at hl 0 rfl) ?_
  refine lv_iload_n hx hb dX2_decodeNumber_1 rfl (lv_at hl 1 rfl) ?_
  have hPc := hP.sub (ws' := [(nu, .inr (5, [.ref au, .int lu])), (au, .inl (cI, cap, .inl fu))]) [0, 1] rfl
  have hDc := hD.sub (ws' := [(nu, .inr (5, [.ref au, .int lu])), (au, .inl (cI, cap, .inl fu))]) [0, 1] (by decide) rfl
  have hFc := va_free (wc := [(nu, .inr (5, [.ref au, .int lu])), (au, .inl (cI, cap, .inl fu))]) hD hS hA [0, 1] rfl
  refine va_calli (va_runV (As := [.int fr]) (rest := []) ⟨hx, hb, hml, hown, hts⟩ (m_X5_get l dC dI cI cS s.heap.size nu au cap lu fu fr (by omega) (by omega)) (cwV 1 hts gX2_decodeNumber_X5_get rfl rfl rfl (by decide +kernel) ⟨Nat.le_of_ble_eq_true rfl, Nat.le_of_ble_eq_true rfl⟩) ⟨fun a U g mk q => by obtain ⟨q0, q1, qP, qK, qD⟩ := q; exact ⟨q0, q1, qP, va_K.moved (u := U) (U := U.calling g mk a) (Vm.Alike.refl U.vm) qK, qD⟩, va_recv hK hPc (ci := 5) (q0 := 0) rfl rfl, fun U hU hW => ⟨rfl, by rw [hU], by rw [hU]; exact hPc, va_K.moved hW.alike hK, hDc.weaken (fun _ _ _ _ => trivial)⟩⟩ rfl rfl hl.1 rfl (lv_room (Nat.le_of_ble_eq_true rfl)) dX2_decodeNumber_2 ⟨Nat.le_of_ble_eq_true rfl, Nat.le_of_ble_eq_true rfl⟩) hS (fun q _ h => hFc q h) hFc (fun r_1 u t H1 locs ht hvm hw hB hz1 hk1 hS => ?_)
  subst hw
  obtain ⟨hP1, hD1, hf1_0⟩ := hB
  rw [ht] at hP1
  obtain ⟨hP, hD⟩ := va_join (wr := []) (w1 := [(nu, .inr (5, [.ref au, .int lu])), (au, .inl (cI, cap, .inl fu))]) hP hD [0, 1] [] rfl rfl (by decide) (by decide) hk1 hFc hP1 hD1
  generalize H1 = H at hP hS ⊢
  have hP : va_P (dC, dI) vwCl [(nu, .inr (5, [.ref au, .int lu])), (au, .inl (cI, cap, .inl fu))] H := hP
  have hD : va_D A [(nu, .inr (5, [.ref au, .int lu])), (au, .inl (cI, cap, .inl fu))] := hD
  have hb1 : r_1.toInt = bt fu en.toInt fr.toNatClampNeg := get_bt (k := fr.toNatClampNeg) hf1_0 (by omega) (by omega) hen
  refine lv_bipush (v := 38) hx hb dX2_decodeNumber_5 (by decide) ?_
  refine lv_icmp_ne (tgt := 29) hx hb dX2_decodeNumber_7 (by decide) (fun c_2 => ?_) (fun c_2 => ?_)
  · have tc_2 : ¬ r_1.toInt = 38 := v_ne c_2
    refine lv_iconst (v := (-1)) hx hb dX2_decodeNumber_29 (by decide) ?_
    have hP9 := hP.sub (ws' := [(nu, .inr (5, [.ref au, .int lu])), (au, .inl (cI, cap, .inl fu))]) [0, 1] rfl
    have hD9 := hD.sub (ws' := [(nu, .inr (5, [.ref au, .int lu])), (au, .inl (cI, cap, .inl fu))]) [0, 1] (by decide) rfl
    rw [hQQ]
    exact W.iret (v := (-1)) hx hb hr (fun t ht hW => ⟨⟨(-1), (-1), rfl, rfl, ⟨by rw [ht]; exact hP9, hD9, Or.inr ⟨rfl, fun l x h => by have o1 := bt_c fu en.toInt (fr.toNatClampNeg + 1); unfold DNa DN at h; omega⟩⟩⟩, hS.F ht⟩) hS.2.2 dX2_decodeNumber_30
  · have tc_2 : r_1.toInt = 38 := v_eq c_2
    refine lv_iload_n hx hb dX2_decodeNumber_10 rfl (lv_at hl 1 rfl) ?_
    refine lv_iconst (v := 1) hx hb dX2_decodeNumber_11 (by decide) ?_
    refine lv_iadd hx hb dX2_decodeNumber_12 ?_
    refine lv_topi (fun x_3 ex_3 => ?_)
    have tx_3 : x_3.toInt = fr.toInt + 1 := v_add ex_3 (by show -2147483648 ≤ fr.toInt + 1; omega) (by show fr.toInt + 1 < 2147483648; omega)
    refine lv_iload_n hx hb dX2_decodeNumber_13 rfl (lv_at hl 2 rfl) ?_
    refine lv_icmp_ge (tgt := 29) hx hb dX2_decodeNumber_14 (by decide) (fun c_4 => ?_) (fun c_4 => ?_)
    · have tc_4 : en.toInt ≤ x_3.toInt := v_le c_4
      refine lv_iconst (v := (-1)) hx hb dX2_decodeNumber_29 (by decide) ?_
      have hP9 := hP.sub (ws' := [(nu, .inr (5, [.ref au, .int lu])), (au, .inl (cI, cap, .inl fu))]) [0, 1] rfl
      have hD9 := hD.sub (ws' := [(nu, .inr (5, [.ref au, .int lu])), (au, .inl (cI, cap, .inl fu))]) [0, 1] (by decide) rfl
      rw [hQQ]
      exact W.iret (v := (-1)) hx hb hr (fun t ht hW => ⟨⟨(-1), (-1), rfl, rfl, ⟨by rw [ht]; exact hP9, hD9, Or.inr ⟨rfl, fun l x h => by have o1 := bt_c fu en.toInt (fr.toNatClampNeg + 1); unfold DNa DN at h; omega⟩⟩⟩, hS.F ht⟩) hS.2.2 dX2_decodeNumber_30
    · have tc_4 : x_3.toInt < en.toInt := v_nle c_4
      refine lv_aload_n hx hb dX2_decodeNumber_17 rfl (lv_at hl 0 rfl) ?_
      refine lv_iload_n hx hb dX2_decodeNumber_18 rfl (lv_at hl 1 rfl) ?_
      refine lv_iconst (v := 1) hx hb dX2_decodeNumber_19 (by decide) ?_
      refine lv_iadd hx hb dX2_decodeNumber_20 ?_
      refine lv_topi (fun x_5 ex_5 => ?_)
      have tx_5 : x_5.toInt = fr.toInt + 1 := v_add ex_5 (by show -2147483648 ≤ fr.toInt + 1; omega) (by show fr.toInt + 1 < 2147483648; omega)
      have hPc := hP.sub (ws' := [(nu, .inr (5, [.ref au, .int lu])), (au, .inl (cI, cap, .inl fu))]) [0, 1] rfl
      have hDc := hD.sub (ws' := [(nu, .inr (5, [.ref au, .int lu])), (au, .inl (cI, cap, .inl fu))]) [0, 1] (by decide) rfl
      have hFc := va_free (wc := [(nu, .inr (5, [.ref au, .int lu])), (au, .inl (cI, cap, .inl fu))]) hD hS hA [0, 1] rfl
      refine va_calli (va_runV (As := [.int x_5]) (rest := []) ⟨hx, hb, hml, hown, hts⟩ (m_X5_get l dC dI cI cS H.size nu au cap lu fu x_5 (by omega) (by omega)) (cwV 1 hts gX2_decodeNumber_X5_get rfl rfl rfl (by decide +kernel) ⟨Nat.le_of_ble_eq_true rfl, Nat.le_of_ble_eq_true rfl⟩) ⟨fun a U g mk q => by obtain ⟨q0, q1, qP, qK, qD⟩ := q; exact ⟨q0, q1, qP, va_K.moved (u := U) (U := U.calling g mk a) (Vm.Alike.refl U.vm) qK, qD⟩, va_recv hK hPc (ci := 5) (q0 := 0) rfl rfl, fun U hU hW => ⟨rfl, by rw [hU], by rw [hU]; exact hPc, va_K.moved hW.alike hK, hDc.weaken (fun _ _ _ _ => trivial)⟩⟩ rfl rfl hl.1 rfl (lv_room (Nat.le_of_ble_eq_true rfl)) dX2_decodeNumber_21 ⟨Nat.le_of_ble_eq_true rfl, Nat.le_of_ble_eq_true rfl⟩) hS (fun q _ h => hFc q h) hFc (fun r_6 u t H1 locs ht hvm hw hB hz1 hk1 hS => ?_)
      subst hw
      obtain ⟨hP1, hD1, hf6_0⟩ := hB
      rw [ht] at hP1
      obtain ⟨hP, hD⟩ := va_join (wr := []) (w1 := [(nu, .inr (5, [.ref au, .int lu])), (au, .inl (cI, cap, .inl fu))]) hP hD [0, 1] [] rfl rfl (by decide) (by decide) hk1 hFc hP1 hD1
      generalize H1 = H at hP hS ⊢
      have hP : va_P (dC, dI) vwCl [(nu, .inr (5, [.ref au, .int lu])), (au, .inl (cI, cap, .inl fu))] H := hP
      have hD : va_D A [(nu, .inr (5, [.ref au, .int lu])), (au, .inl (cI, cap, .inl fu))] := hD
      have hb6 : r_6.toInt = bt fu en.toInt (fr.toNatClampNeg + 1) := get_bt (k := fr.toNatClampNeg + 1) hf6_0 (by omega) (by omega) hen
      refine lv_bipush (v := 35) hx hb dX2_decodeNumber_24 (by decide) ?_
      refine lv_icmp_eq (tgt := 31) hx hb dX2_decodeNumber_26 (by decide) (fun c_7 => ?_) (fun c_7 => ?_)
      · have tc_7 : r_6.toInt = 35 := v_eq c_7
        refine lv_iconst (v := 0) hx hb dX2_decodeNumber_31 (by decide) ?_
        refine lv_istore_n (lv' := [(3, .int 0), (0, .ref nu), (1, .int fr), (2, .int en)]) hx hb dX2_decodeNumber_32 rfl hl (by decide) rfl (fun ls hl => ?_)
        refine lv_iload_n hx hb dX2_decodeNumber_33 rfl (lv_at hl 2 rfl) ?_
        refine lv_iconst (v := 2) hx hb dX2_decodeNumber_34 (by decide) ?_
        refine lv_iadd hx hb dX2_decodeNumber_35 ?_
        refine lv_topi (fun x_8 ex_8 => ?_)
        have tx_8 : x_8.toInt = fr.toInt + 2 := v_add ex_8 (by show -2147483648 ≤ fr.toInt + 2; omega) (by show fr.toInt + 2 < 2147483648; omega)
        refine lv_istore (lv' := [(4, .int x_8), (3, .int 0), (0, .ref nu), (1, .int fr), (2, .int en)]) hx hb dX2_decodeNumber_36 hl (by decide) rfl (fun ls hl => ?_)
        have LOOP_38 : ∀ (k_38 : Nat) (nb : Int32) (p_ : Int32) (H : Heap) (locs : List Loc) (ls : Array Slot), (en.toInt - p_.toInt : Int).toNat < k_38 → (0 ≤ nb.toInt ∧ nb.toInt ≤ 999999) → (2 ≤ p_.toInt ∧ p_.toInt ≤ 2408) → (fr.toInt + 2 ≤ p_.toInt ∧ p_.toInt ≤ fr.toInt + 8) → (NI (bo fu en.toInt fr.toNatClampNeg) (p_.toInt - fr.toInt - 2).toNat nb.toInt) → va_P (dC, dI) vwCl [(nu, .inr (5, [.ref au, .int lu])), (au, .inl (cI, cap, .inl fu))] H → va_D A [(nu, .inr (5, [.ref au, .int lu])), (au, .inl (cI, cap, .inl fu))] → va_S A s.heap H locs → lv_has ls 7 [(4, .int p_), (3, .int nb), (0, .ref nu), (1, .int fr), (2, .int en)] → W p l e (headSpec wsX2_decodeNumber ({ frames := 1, cells := 0, slots := 0, locals := 21 } : Room)).room s m ([.ref nu, .int fr, .int en] : List Value).toArray below meth c H locs 0 0 (MQ below QQ ([.ref nu, .int fr, .int en] : List Value).toArray s 0 0 A) (F0 m 38 ls []) := by
          intro k_38
          induction k_38 with
          | zero =>
            intro nb p_ H locs ls hm_38 g_nb g_p_ hp2 hni hP hD hS hl
            exact absurd hm_38 (Nat.not_lt_zero _)
          | succ k_38 ih_38 =>
            intro nb p_ H locs ls hm_38 g_nb g_p_ hp2 hni hP hD hS hl
            refine lv_iload hx hb dX2_decodeNumber_38 (lv_at hl 0 rfl) ?_
            refine lv_iload_n hx hb dX2_decodeNumber_40 rfl (lv_at hl 4 rfl) ?_
            refine lv_icmp_ge (tgt := 153) hx hb dX2_decodeNumber_41 (by decide) (fun c_9 => ?_) (fun c_9 => ?_)
            · have tc_9 : en.toInt ≤ p_.toInt := v_le c_9
              refine lv_iconst (v := (-1)) hx hb dX2_decodeNumber_153 (by decide) ?_
              have hP9 := hP.sub (ws' := [(nu, .inr (5, [.ref au, .int lu])), (au, .inl (cI, cap, .inl fu))]) [0, 1] rfl
              have hD9 := hD.sub (ws' := [(nu, .inr (5, [.ref au, .int lu])), (au, .inl (cI, cap, .inl fu))]) [0, 1] (by decide) rfl
              rw [hQQ]
              exact W.iret (v := (-1)) hx hb hr (fun t ht hW => ⟨⟨(-1), (-1), rfl, rfl, ⟨by rw [ht]; exact hP9, hD9, Or.inr ⟨rfl, by first | exact DN_no (B := bo fu en.toInt fr.toNatClampNeg) (next := -1) hni (bt_out (by omega)).symm (by omega) | exact DN_no (B := bo fu en.toInt fr.toNatClampNeg) hni rfl (Or.inr (Or.inr (Or.inl (by omega))))⟩⟩⟩, hS.F ht⟩) hS.2.2 dX2_decodeNumber_154
            · have tc_9 : p_.toInt < en.toInt := v_nle c_9
              refine lv_iload hx hb dX2_decodeNumber_44 (lv_at hl 0 rfl) ?_
              refine lv_iload_n hx hb dX2_decodeNumber_46 rfl (lv_at hl 3 rfl) ?_
              refine lv_bipush (v := 8) hx hb dX2_decodeNumber_47 (by decide) ?_
              refine lv_iadd hx hb dX2_decodeNumber_49 ?_
              refine lv_topi (fun x_10 ex_10 => ?_)
              have tx_10 : x_10.toInt = fr.toInt + 8 := v_add ex_10 (by show -2147483648 ≤ fr.toInt + 8; omega) (by show fr.toInt + 8 < 2147483648; omega)
              refine lv_icmp_ge (tgt := 153) hx hb dX2_decodeNumber_50 (by decide) (fun c_11 => ?_) (fun c_11 => ?_)
              · have tc_11 : x_10.toInt ≤ p_.toInt := v_le c_11
                refine lv_iconst (v := (-1)) hx hb dX2_decodeNumber_153 (by decide) ?_
                have hP9 := hP.sub (ws' := [(nu, .inr (5, [.ref au, .int lu])), (au, .inl (cI, cap, .inl fu))]) [0, 1] rfl
                have hD9 := hD.sub (ws' := [(nu, .inr (5, [.ref au, .int lu])), (au, .inl (cI, cap, .inl fu))]) [0, 1] (by decide) rfl
                rw [hQQ]
                exact W.iret (v := (-1)) hx hb hr (fun t ht hW => ⟨⟨(-1), (-1), rfl, rfl, ⟨by rw [ht]; exact hP9, hD9, Or.inr ⟨rfl, by first | exact DN_no (B := bo fu en.toInt fr.toNatClampNeg) (next := -1) hni (bt_out (by omega)).symm (by omega) | exact DN_no (B := bo fu en.toInt fr.toNatClampNeg) hni rfl (Or.inr (Or.inr (Or.inl (by omega))))⟩⟩⟩, hS.F ht⟩) hS.2.2 dX2_decodeNumber_154
              · have tc_11 : p_.toInt < x_10.toInt := v_nle c_11
                have hnr := NI_r hni
                refine lv_aload_n hx hb dX2_decodeNumber_53 rfl (lv_at hl 2 rfl) ?_
                refine lv_iload hx hb dX2_decodeNumber_54 (lv_at hl 0 rfl) ?_
                have hPc := hP.sub (ws' := [(nu, .inr (5, [.ref au, .int lu])), (au, .inl (cI, cap, .inl fu))]) [0, 1] rfl
                have hDc := hD.sub (ws' := [(nu, .inr (5, [.ref au, .int lu])), (au, .inl (cI, cap, .inl fu))]) [0, 1] (by decide) rfl
                have hFc := va_free (wc := [(nu, .inr (5, [.ref au, .int lu])), (au, .inl (cI, cap, .inl fu))]) hD hS hA [0, 1] rfl
                refine va_calli (va_runV (As := [.int p_]) (rest := []) ⟨hx, hb, hml, hown, hts⟩ (m_X5_get l dC dI cI cS H.size nu au cap lu fu p_ (by omega) (by omega)) (cwV 1 hts gX2_decodeNumber_X5_get rfl rfl rfl (by decide +kernel) ⟨Nat.le_of_ble_eq_true rfl, Nat.le_of_ble_eq_true rfl⟩) ⟨fun a U g mk q => by obtain ⟨q0, q1, qP, qK, qD⟩ := q; exact ⟨q0, q1, qP, va_K.moved (u := U) (U := U.calling g mk a) (Vm.Alike.refl U.vm) qK, qD⟩, va_recv hK hPc (ci := 5) (q0 := 0) rfl rfl, fun U hU hW => ⟨rfl, by rw [hU], by rw [hU]; exact hPc, va_K.moved hW.alike hK, hDc.weaken (fun _ _ _ _ => trivial)⟩⟩ rfl rfl hl.1 rfl (lv_room (Nat.le_of_ble_eq_true rfl)) dX2_decodeNumber_56 ⟨Nat.le_of_ble_eq_true rfl, Nat.le_of_ble_eq_true rfl⟩) hS (fun q _ h => hFc q h) hFc (fun r_12 u t H1 locs ht hvm hw hB hz1 hk1 hS => ?_)
                subst hw
                obtain ⟨hP1, hD1, hf12_0⟩ := hB
                rw [ht] at hP1
                obtain ⟨hP, hD⟩ := va_join (wr := []) (w1 := [(nu, .inr (5, [.ref au, .int lu])), (au, .inl (cI, cap, .inl fu))]) hP hD [0, 1] [] rfl rfl (by decide) (by decide) hk1 hFc hP1 hD1
                generalize H1 = H at hP hS ⊢
                have hP : va_P (dC, dI) vwCl [(nu, .inr (5, [.ref au, .int lu])), (au, .inl (cI, cap, .inl fu))] H := hP
                have hD : va_D A [(nu, .inr (5, [.ref au, .int lu])), (au, .inl (cI, cap, .inl fu))] := hD
                have hb12 : r_12.toInt = bo fu en.toInt fr.toNatClampNeg (2 + (p_.toInt - fr.toInt - 2).toNat) := get_bt (k := fr.toNatClampNeg + (2 + (p_.toInt - fr.toInt - 2).toNat)) hf12_0 (by omega) (by omega) hen
                refine lv_istore (lv' := [(5, .int r_12), (4, .int p_), (3, .int nb), (0, .ref nu), (1, .int fr), (2, .int en)]) hx hb dX2_decodeNumber_59 hl (by decide) rfl (fun ls hl => ?_)
                refine lv_iload hx hb dX2_decodeNumber_61 (lv_at hl 0 rfl) ?_
                refine lv_bipush (v := 59) hx hb dX2_decodeNumber_63 (by decide) ?_
                refine lv_icmp_ne (tgt := 97) hx hb dX2_decodeNumber_65 (by decide) (fun c_13 => ?_) (fun c_13 => ?_)
                · have tc_13 : ¬ r_12.toInt = 59 := v_ne c_13
                  refine lv_iload_n hx hb dX2_decodeNumber_97 rfl (lv_at hl 2 rfl) ?_
                  refine lv_if_ne (tgt := 112) hx hb dX2_decodeNumber_98 (by decide) (fun c_14 => ?_) (fun c_14 => ?_)
                  · have tc_14 : ¬ nb.toInt = 0 := v_ne c_14
                    refine lv_iconst (v := 0) hx hb dX2_decodeNumber_112 (by decide) ?_
                    refine lv_istore (lv' := [(6, .int 0), (5, .int r_12), (4, .int p_), (3, .int nb), (0, .ref nu), (1, .int fr), (2, .int en)]) hx hb dX2_decodeNumber_113 hl (by decide) rfl (fun ls hl => ?_)
                    refine lv_iload hx hb dX2_decodeNumber_115 (lv_at hl 1 rfl) ?_
                    refine lv_bipush (v := 48) hx hb dX2_decodeNumber_117 (by decide) ?_
                    refine lv_icmp_lt (tgt := 134) hx hb dX2_decodeNumber_119 (by decide) (fun c_15 => ?_) (fun c_15 => ?_)
                    · have tc_15 : r_12.toInt < 48 := v_lt c_15
                      refine lv_iconst (v := (-1)) hx hb dX2_decodeNumber_134 (by decide) ?_
                      have hP9 := hP.sub (ws' := [(nu, .inr (5, [.ref au, .int lu])), (au, .inl (cI, cap, .inl fu))]) [0, 1] rfl
                      have hD9 := hD.sub (ws' := [(nu, .inr (5, [.ref au, .int lu])), (au, .inl (cI, cap, .inl fu))]) [0, 1] (by decide) rfl
                      rw [hQQ]
                      exact W.iret (v := (-1)) hx hb hr (fun t ht hW => ⟨⟨(-1), (-1), rfl, rfl, ⟨by rw [ht]; exact hP9, hD9, Or.inr ⟨rfl, DN_no (B := bo fu en.toInt fr.toNatClampNeg) hni hb12 (by omega)⟩⟩⟩, hS.F ht⟩) hS.2.2 dX2_decodeNumber_135
                    · have tc_15 : 48 ≤ r_12.toInt := v_nlt c_15
                      refine lv_iload hx hb dX2_decodeNumber_122 (lv_at hl 1 rfl) ?_
                      refine lv_bipush (v := 57) hx hb dX2_decodeNumber_124 (by decide) ?_
                      refine lv_icmp_gt (tgt := 134) hx hb dX2_decodeNumber_126 (by decide) (fun c_16 => ?_) (fun c_16 => ?_)
                      · have tc_16 : 57 < r_12.toInt := v_lt c_16
                        refine lv_iconst (v := (-1)) hx hb dX2_decodeNumber_134 (by decide) ?_
                        have hP9 := hP.sub (ws' := [(nu, .inr (5, [.ref au, .int lu])), (au, .inl (cI, cap, .inl fu))]) [0, 1] rfl
                        have hD9 := hD.sub (ws' := [(nu, .inr (5, [.ref au, .int lu])), (au, .inl (cI, cap, .inl fu))]) [0, 1] (by decide) rfl
                        rw [hQQ]
                        exact W.iret (v := (-1)) hx hb hr (fun t ht hW => ⟨⟨(-1), (-1), rfl, rfl, ⟨by rw [ht]; exact hP9, hD9, Or.inr ⟨rfl, DN_no (B := bo fu en.toInt fr.toNatClampNeg) hni hb12 (by omega)⟩⟩⟩, hS.F ht⟩) hS.2.2 dX2_decodeNumber_135
                      · have tc_16 : r_12.toInt ≤ 57 := v_nlt c_16
                        refine lv_iload hx hb dX2_decodeNumber_129 (lv_at hl 0 rfl) ?_
                        refine lv_if_eq (tgt := 136) hx hb dX2_decodeNumber_131 (by decide) (fun c_17 => ?_) (fun c_17 => absurd c_17 (by decide))
                        refine lv_iload_n hx hb dX2_decodeNumber_136 rfl (lv_at hl 3 rfl) ?_
                        refine lv_bipush (v := 10) hx hb dX2_decodeNumber_137 (by decide) ?_
                        refine lv_imul hx hb dX2_decodeNumber_139 ?_
                        refine lv_topi (fun x_18 ex_18 => ?_)
                        have tx_18 : x_18.toInt = nb.toInt * 10 := v_mul ex_18 (by show -2147483648 ≤ nb.toInt * 10; omega) (by show nb.toInt * 10 < 2147483648; omega)
                        refine lv_iload hx hb dX2_decodeNumber_140 (lv_at hl 1 rfl) ?_
                        refine lv_iadd hx hb dX2_decodeNumber_142 ?_
                        refine lv_topi (fun x_19 ex_19 => ?_)
                        have tx_19 : x_19.toInt = x_18.toInt + r_12.toInt := v_add ex_19 (by show -2147483648 ≤ x_18.toInt + r_12.toInt; omega) (by show x_18.toInt + r_12.toInt < 2147483648; omega)
                        refine lv_bipush (v := 48) hx hb dX2_decodeNumber_143 (by decide) ?_
                        refine lv_isub hx hb dX2_decodeNumber_145 ?_
                        refine lv_topi (fun x_20 ex_20 => ?_)
                        have tx_20 : x_20.toInt = x_19.toInt - 48 := v_sub ex_20 (by show -2147483648 ≤ x_19.toInt - 48; omega) (by show x_19.toInt - 48 < 2147483648; omega)
                        refine lv_istore_n (lv' := [(3, .int x_20), (6, .int 0), (5, .int r_12), (4, .int p_), (0, .ref nu), (1, .int fr), (2, .int en)]) hx hb dX2_decodeNumber_146 rfl hl (by decide) rfl (fun ls hl => ?_)
                        obtain ⟨x_21, ex_21⟩ : ∃ y : Int32, y = p_ + 1 := ⟨_, rfl⟩
                        have tx_21 : x_21.toInt = p_.toInt + 1 := v_add ex_21 (by show -2147483648 ≤ p_.toInt + 1; omega) (by show p_.toInt + 1 < 2147483648; omega)
                        refine lv_iinc (v := x_21) (lv' := [(4, .int x_21), (3, .int x_20), (6, .int 0), (5, .int r_12), (0, .ref nu), (1, .int fr), (2, .int en)]) hx hb dX2_decodeNumber_147 hl (k := 3) rfl (by rw [ex_21]; rfl) (by decide) rfl (fun ls hl => ?_)
                        refine lv_goto (tgt := 38) hx hb dX2_decodeNumber_150 (by decide) ?_
                        exact ih_38 x_20 x_21 _ _ _ (by have hm9 := hm_38; show ((en.toInt - x_21.toInt : Int)).toNat < k_38; omega) (by show 0 ≤ x_20.toInt ∧ x_20.toInt ≤ 999999; omega) (by show 2 ≤ x_21.toInt ∧ x_21.toInt ≤ 2408; omega) (by show fr.toInt + 2 ≤ x_21.toInt ∧ x_21.toInt ≤ fr.toInt + 8; omega) (NI_s hni hb12 (by omega) (by omega) (by omega) (by omega) (by omega)) hP hD hS (lv_sub hl [0, 1, 4, 5, 6] rfl)
                  · have tc_14 : nb.toInt = 0 := v_eq c_14
                    refine lv_iload hx hb dX2_decodeNumber_101 (lv_at hl 0 rfl) ?_
                    refine lv_bipush (v := 48) hx hb dX2_decodeNumber_103 (by decide) ?_
                    refine lv_icmp_ne (tgt := 112) hx hb dX2_decodeNumber_105 (by decide) (fun c_22 => ?_) (fun c_22 => ?_)
                    · have tc_22 : ¬ r_12.toInt = 48 := v_ne c_22
                      refine lv_iconst (v := 0) hx hb dX2_decodeNumber_112 (by decide) ?_
                      refine lv_istore (lv' := [(6, .int 0), (5, .int r_12), (4, .int p_), (3, .int nb), (0, .ref nu), (1, .int fr), (2, .int en)]) hx hb dX2_decodeNumber_113 hl (by decide) rfl (fun ls hl => ?_)
                      refine lv_iload hx hb dX2_decodeNumber_115 (lv_at hl 1 rfl) ?_
                      refine lv_bipush (v := 48) hx hb dX2_decodeNumber_117 (by decide) ?_
                      refine lv_icmp_lt (tgt := 134) hx hb dX2_decodeNumber_119 (by decide) (fun c_23 => ?_) (fun c_23 => ?_)
                      · have tc_23 : r_12.toInt < 48 := v_lt c_23
                        refine lv_iconst (v := (-1)) hx hb dX2_decodeNumber_134 (by decide) ?_
                        have hP9 := hP.sub (ws' := [(nu, .inr (5, [.ref au, .int lu])), (au, .inl (cI, cap, .inl fu))]) [0, 1] rfl
                        have hD9 := hD.sub (ws' := [(nu, .inr (5, [.ref au, .int lu])), (au, .inl (cI, cap, .inl fu))]) [0, 1] (by decide) rfl
                        rw [hQQ]
                        exact W.iret (v := (-1)) hx hb hr (fun t ht hW => ⟨⟨(-1), (-1), rfl, rfl, ⟨by rw [ht]; exact hP9, hD9, Or.inr ⟨rfl, DN_no (B := bo fu en.toInt fr.toNatClampNeg) hni hb12 (by omega)⟩⟩⟩, hS.F ht⟩) hS.2.2 dX2_decodeNumber_135
                      · have tc_23 : 48 ≤ r_12.toInt := v_nlt c_23
                        refine lv_iload hx hb dX2_decodeNumber_122 (lv_at hl 1 rfl) ?_
                        refine lv_bipush (v := 57) hx hb dX2_decodeNumber_124 (by decide) ?_
                        refine lv_icmp_gt (tgt := 134) hx hb dX2_decodeNumber_126 (by decide) (fun c_24 => ?_) (fun c_24 => ?_)
                        · have tc_24 : 57 < r_12.toInt := v_lt c_24
                          refine lv_iconst (v := (-1)) hx hb dX2_decodeNumber_134 (by decide) ?_
                          have hP9 := hP.sub (ws' := [(nu, .inr (5, [.ref au, .int lu])), (au, .inl (cI, cap, .inl fu))]) [0, 1] rfl
                          have hD9 := hD.sub (ws' := [(nu, .inr (5, [.ref au, .int lu])), (au, .inl (cI, cap, .inl fu))]) [0, 1] (by decide) rfl
                          rw [hQQ]
                          exact W.iret (v := (-1)) hx hb hr (fun t ht hW => ⟨⟨(-1), (-1), rfl, rfl, ⟨by rw [ht]; exact hP9, hD9, Or.inr ⟨rfl, DN_no (B := bo fu en.toInt fr.toNatClampNeg) hni hb12 (by omega)⟩⟩⟩, hS.F ht⟩) hS.2.2 dX2_decodeNumber_135
                        · have tc_24 : r_12.toInt ≤ 57 := v_nlt c_24
                          refine lv_iload hx hb dX2_decodeNumber_129 (lv_at hl 0 rfl) ?_
                          refine lv_if_eq (tgt := 136) hx hb dX2_decodeNumber_131 (by decide) (fun c_25 => ?_) (fun c_25 => absurd c_25 (by decide))
                          refine lv_iload_n hx hb dX2_decodeNumber_136 rfl (lv_at hl 3 rfl) ?_
                          refine lv_bipush (v := 10) hx hb dX2_decodeNumber_137 (by decide) ?_
                          refine lv_imul hx hb dX2_decodeNumber_139 ?_
                          refine lv_topi (fun x_26 ex_26 => ?_)
                          have tx_26 : x_26.toInt = nb.toInt * 10 := v_mul ex_26 (by show -2147483648 ≤ nb.toInt * 10; omega) (by show nb.toInt * 10 < 2147483648; omega)
                          refine lv_iload hx hb dX2_decodeNumber_140 (lv_at hl 1 rfl) ?_
                          refine lv_iadd hx hb dX2_decodeNumber_142 ?_
                          refine lv_topi (fun x_27 ex_27 => ?_)
                          have tx_27 : x_27.toInt = x_26.toInt + r_12.toInt := v_add ex_27 (by show -2147483648 ≤ x_26.toInt + r_12.toInt; omega) (by show x_26.toInt + r_12.toInt < 2147483648; omega)
                          refine lv_bipush (v := 48) hx hb dX2_decodeNumber_143 (by decide) ?_
                          refine lv_isub hx hb dX2_decodeNumber_145 ?_
                          refine lv_topi (fun x_28 ex_28 => ?_)
                          have tx_28 : x_28.toInt = x_27.toInt - 48 := v_sub ex_28 (by show -2147483648 ≤ x_27.toInt - 48; omega) (by show x_27.toInt - 48 < 2147483648; omega)
                          refine lv_istore_n (lv' := [(3, .int x_28), (6, .int 0), (5, .int r_12), (4, .int p_), (0, .ref nu), (1, .int fr), (2, .int en)]) hx hb dX2_decodeNumber_146 rfl hl (by decide) rfl (fun ls hl => ?_)
                          obtain ⟨x_29, ex_29⟩ : ∃ y : Int32, y = p_ + 1 := ⟨_, rfl⟩
                          have tx_29 : x_29.toInt = p_.toInt + 1 := v_add ex_29 (by show -2147483648 ≤ p_.toInt + 1; omega) (by show p_.toInt + 1 < 2147483648; omega)
                          refine lv_iinc (v := x_29) (lv' := [(4, .int x_29), (3, .int x_28), (6, .int 0), (5, .int r_12), (0, .ref nu), (1, .int fr), (2, .int en)]) hx hb dX2_decodeNumber_147 hl (k := 3) rfl (by rw [ex_29]; rfl) (by decide) rfl (fun ls hl => ?_)
                          refine lv_goto (tgt := 38) hx hb dX2_decodeNumber_150 (by decide) ?_
                          exact ih_38 x_28 x_29 _ _ _ (by have hm9 := hm_38; show ((en.toInt - x_29.toInt : Int)).toNat < k_38; omega) (by show 0 ≤ x_28.toInt ∧ x_28.toInt ≤ 999999; omega) (by show 2 ≤ x_29.toInt ∧ x_29.toInt ≤ 2408; omega) (by show fr.toInt + 2 ≤ x_29.toInt ∧ x_29.toInt ≤ fr.toInt + 8; omega) (NI_s hni hb12 (by omega) (by omega) (by omega) (by omega) (by omega)) hP hD hS (lv_sub hl [0, 1, 4, 5, 6] rfl)
                    · have tc_22 : r_12.toInt = 48 := v_eq c_22
                      refine lv_iconst (v := 1) hx hb dX2_decodeNumber_108 (by decide) ?_
                      refine lv_goto (tgt := 113) hx hb dX2_decodeNumber_109 (by decide) ?_
                      refine lv_istore (lv' := [(6, .int 1), (5, .int r_12), (4, .int p_), (3, .int nb), (0, .ref nu), (1, .int fr), (2, .int en)]) hx hb dX2_decodeNumber_113 hl (by decide) rfl (fun ls hl => ?_)
                      refine lv_iload hx hb dX2_decodeNumber_115 (lv_at hl 1 rfl) ?_
                      refine lv_bipush (v := 48) hx hb dX2_decodeNumber_117 (by decide) ?_
                      refine lv_icmp_lt (tgt := 134) hx hb dX2_decodeNumber_119 (by decide) (fun c_30 => by exfalso; have tc_30 : r_12.toInt < 48 := v_lt c_30; omega) (fun c_30 => ?_)
                      have tc_30 : 48 ≤ r_12.toInt := v_nlt c_30
                      refine lv_iload hx hb dX2_decodeNumber_122 (lv_at hl 1 rfl) ?_
                      refine lv_bipush (v := 57) hx hb dX2_decodeNumber_124 (by decide) ?_
                      refine lv_icmp_gt (tgt := 134) hx hb dX2_decodeNumber_126 (by decide) (fun c_31 => by exfalso; have tc_31 : 57 < r_12.toInt := v_lt c_31; omega) (fun c_31 => ?_)
                      have tc_31 : r_12.toInt ≤ 57 := v_nlt c_31
                      refine lv_iload hx hb dX2_decodeNumber_129 (lv_at hl 0 rfl) ?_
                      refine lv_if_eq (tgt := 136) hx hb dX2_decodeNumber_131 (by decide) (fun c_32 => absurd c_32 (by decide)) (fun c_32 => ?_)
                      refine lv_iconst (v := (-1)) hx hb dX2_decodeNumber_134 (by decide) ?_
                      have hP9 := hP.sub (ws' := [(nu, .inr (5, [.ref au, .int lu])), (au, .inl (cI, cap, .inl fu))]) [0, 1] rfl
                      have hD9 := hD.sub (ws' := [(nu, .inr (5, [.ref au, .int lu])), (au, .inl (cI, cap, .inl fu))]) [0, 1] (by decide) rfl
                      rw [hQQ]
                      exact W.iret (v := (-1)) hx hb hr (fun t ht hW => ⟨⟨(-1), (-1), rfl, rfl, ⟨by rw [ht]; exact hP9, hD9, Or.inr ⟨rfl, DN_no (B := bo fu en.toInt fr.toNatClampNeg) hni hb12 (by omega)⟩⟩⟩, hS.F ht⟩) hS.2.2 dX2_decodeNumber_135
                · have tc_13 : r_12.toInt = 59 := v_eq c_13
                  refine lv_iload_n hx hb dX2_decodeNumber_68 rfl (lv_at hl 2 rfl) ?_
                  have hPc := hP.sub (ws' := []) [] rfl
                  have hDc := hD.sub (ws' := []) [] (by decide) rfl
                  have hFc := va_free (wc := []) hD hS hA [] rfl
                  refine va_calli (va_runSN (As := [.int nb]) (rest := []) ⟨hx, hb, hml, hown, hts⟩ (m_X11_isLetter l dC dI cI cS H.size nb ) ⟨va_cnB 1 hts gX2_decodeNumber_X11_isLetter_n52 rfl rfl rfl hN52 (hts (.initialized RX11) (List.mem_of_getElem? (i := 9) rfl)) (by decide +kernel) ⟨Nat.le_of_ble_eq_true rfl, Nat.le_of_ble_eq_true rfl⟩, (hts (.static yX11_isLetter) (List.mem_of_getElem? (i := 8) rfl)), trivial⟩ ⟨fun a U g mk q => by obtain ⟨q0, q1, qP, qK, qD⟩ := q; exact ⟨q0, q1, qP, va_K.moved (u := U) (U := U.calling g mk a) (Vm.Alike.refl U.vm) qK, qD⟩, fun U hU hW => ⟨rfl, by rw [hU], by rw [hU]; exact hPc, va_K.moved hW.alike hK, hDc.weaken (fun _ _ _ _ => trivial)⟩⟩ rfl rfl hl.1 rfl (lv_room (Nat.le_of_ble_eq_true rfl)) dX2_decodeNumber_69 ⟨Nat.le_of_ble_eq_true rfl, Nat.le_of_ble_eq_true rfl⟩) hS (fun q _ h => hFc q h) hFc (fun r_33 u t H1 locs ht hvm hw hB hz1 hk1 hS => ?_)
                  subst hw
                  obtain ⟨hP1, hD1, hf33_0, hf33_1⟩ := hB
                  rw [ht] at hP1
                  obtain ⟨hP, hD⟩ := va_join (wr := [(nu, .inr (5, [.ref au, .int lu])), (au, .inl (cI, cap, .inl fu))]) (w1 := []) hP hD [] [0, 1] rfl rfl (by decide) (by decide) hk1 hFc hP1 hD1
                  generalize H1 = H at hP hS ⊢
                  have hP : va_P (dC, dI) vwCl [(nu, .inr (5, [.ref au, .int lu])), (au, .inl (cI, cap, .inl fu))] H := hP
                  have hD : va_D A [(nu, .inr (5, [.ref au, .int lu])), (au, .inl (cI, cap, .inl fu))] := hD
                  refine lv_if_eq (tgt := 95) hx hb dX2_decodeNumber_72 (by decide) (fun c_34 => ?_) (fun c_34 => ?_)
                  · have tc_34 : r_33.toInt = 0 := v_eq c_34
                    refine lv_iconst (v := (-1)) hx hb dX2_decodeNumber_95 (by decide) ?_
                    have hP9 := hP.sub (ws' := [(nu, .inr (5, [.ref au, .int lu])), (au, .inl (cI, cap, .inl fu))]) [0, 1] rfl
                    have hD9 := hD.sub (ws' := [(nu, .inr (5, [.ref au, .int lu])), (au, .inl (cI, cap, .inl fu))]) [0, 1] (by decide) rfl
                    rw [hQQ]
                    exact W.iret (v := (-1)) hx hb hr (fun t ht hW => ⟨⟨(-1), (-1), rfl, rfl, ⟨by rw [ht]; exact hP9, hD9, Or.inr ⟨rfl, DN_no (B := bo fu en.toInt fr.toNatClampNeg) hni hb12 (by omega)⟩⟩⟩, hS.F ht⟩) hS.2.2 dX2_decodeNumber_96
                  · have tc_34 : ¬ r_33.toInt = 0 := v_ne c_34
                    refine lv_iload_n hx hb dX2_decodeNumber_75 rfl (lv_at hl 2 rfl) ?_
                    have hPc := hP.sub (ws' := []) [] rfl
                    have hDc := hD.sub (ws' := []) [] (by decide) rfl
                    have hFc := va_free (wc := []) hD hS hA [] rfl
                    refine va_calli (va_runS (As := [.int nb]) (rest := []) ⟨hx, hb, hml, hown, hts⟩ (f_X2_isNumbered l dC dI cI cS H.size nb ) (va_cwS 1 hts gX2_decodeNumber_X2_isNumbered rfl rfl rfl (by decide +kernel) ⟨Nat.le_of_ble_eq_true rfl, Nat.le_of_ble_eq_true rfl⟩) ⟨fun a U g mk q => by obtain ⟨q0, q1, qP, qK, qD⟩ := q; exact ⟨q0, q1, qP, va_K.moved (u := U) (U := U.calling g mk a) (Vm.Alike.refl U.vm) qK, qD⟩, fun U hU hW => ⟨rfl, by rw [hU], by rw [hU]; exact hPc, va_K.moved hW.alike hK, hDc.weaken (fun _ _ _ _ => trivial)⟩⟩ rfl rfl hl.1 rfl (lv_room (Nat.le_of_ble_eq_true rfl)) dX2_decodeNumber_76 ⟨Nat.le_of_ble_eq_true rfl, Nat.le_of_ble_eq_true rfl⟩) hS (fun q _ h => hFc q h) hFc (fun r_35 u t H1 locs ht hvm hw hB hz1 hk1 hS => ?_)
                    subst hw
                    obtain ⟨hP1, hD1, hf35_0, hf35_1⟩ := hB
                    rw [ht] at hP1
                    obtain ⟨hP, hD⟩ := va_join (wr := [(nu, .inr (5, [.ref au, .int lu])), (au, .inl (cI, cap, .inl fu))]) (w1 := []) hP hD [] [0, 1] rfl rfl (by decide) (by decide) hk1 hFc hP1 hD1
                    generalize H1 = H at hP hS ⊢
                    have hP : va_P (dC, dI) vwCl [(nu, .inr (5, [.ref au, .int lu])), (au, .inl (cI, cap, .inl fu))] H := hP
                    have hD : va_D A [(nu, .inr (5, [.ref au, .int lu])), (au, .inl (cI, cap, .inl fu))] := hD
                    refine lv_if_eq (tgt := 95) hx hb dX2_decodeNumber_79 (by decide) (fun c_36 => ?_) (fun c_36 => ?_)
                    · have tc_36 : r_35.toInt = 0 := v_eq c_36
                      refine lv_iconst (v := (-1)) hx hb dX2_decodeNumber_95 (by decide) ?_
                      have hP9 := hP.sub (ws' := [(nu, .inr (5, [.ref au, .int lu])), (au, .inl (cI, cap, .inl fu))]) [0, 1] rfl
                      have hD9 := hD.sub (ws' := [(nu, .inr (5, [.ref au, .int lu])), (au, .inl (cI, cap, .inl fu))]) [0, 1] (by decide) rfl
                      rw [hQQ]
                      exact W.iret (v := (-1)) hx hb hr (fun t ht hW => ⟨⟨(-1), (-1), rfl, rfl, ⟨by rw [ht]; exact hP9, hD9, Or.inr ⟨rfl, DN_no (B := bo fu en.toInt fr.toNatClampNeg) hni hb12 (by omega)⟩⟩⟩, hS.F ht⟩) hS.2.2 dX2_decodeNumber_96
                    · have tc_36 : ¬ r_35.toInt = 0 := v_ne c_36
                      refine lv_iload_n hx hb dX2_decodeNumber_82 rfl (lv_at hl 2 rfl) ?_
                      refine lv_iload hx hb dX2_decodeNumber_83 (lv_at hl 1 rfl) ?_
                      refine lv_iconst (v := 1) hx hb dX2_decodeNumber_85 (by decide) ?_
                      refine lv_iadd hx hb dX2_decodeNumber_86 ?_
                      refine lv_topi (fun x_37 ex_37 => ?_)
                      have tx_37 : x_37.toInt = p_.toInt + 1 := v_add ex_37 (by show -2147483648 ≤ p_.toInt + 1; omega) (by show p_.toInt + 1 < 2147483648; omega)
                      refine lv_iload_n hx hb dX2_decodeNumber_87 rfl (lv_at hl 4 rfl) ?_
                      refine lv_isub hx hb dX2_decodeNumber_88 ?_
                      refine lv_topi (fun x_38 ex_38 => ?_)
                      have tx_38 : x_38.toInt = x_37.toInt - fr.toInt := v_sub ex_38 (by show -2147483648 ≤ x_37.toInt - fr.toInt; omega) (by show x_37.toInt - fr.toInt < 2147483648; omega)
                      have hPc := hP.sub (ws' := []) [] rfl
                      have hDc := hD.sub (ws' := []) [] (by decide) rfl
                      have hFc := va_free (wc := []) hD hS hA [] rfl
                      refine va_calli (va_runS (As := [.int nb, .int x_38]) (rest := []) ⟨hx, hb, hml, hown, hts⟩ (f_X2_found l dC dI cI cS H.size nb x_38 (by omega) (by omega)) (va_cwS 2 hts gX2_decodeNumber_X2_found rfl rfl rfl (by decide +kernel) ⟨Nat.le_of_ble_eq_true rfl, Nat.le_of_ble_eq_true rfl⟩) ⟨fun a U g mk q => by obtain ⟨q0, q1, qP, qK, qD⟩ := q; exact ⟨q0, q1, qP, va_K.moved (u := U) (U := U.calling g mk a) (Vm.Alike.refl U.vm) qK, qD⟩, fun U hU hW => ⟨rfl, by rw [hU], by rw [hU]; exact hPc, va_K.moved hW.alike hK, hDc.weaken (fun _ _ _ _ => trivial)⟩⟩ rfl rfl hl.1 rfl (lv_room (Nat.le_of_ble_eq_true rfl)) dX2_decodeNumber_89 ⟨Nat.le_of_ble_eq_true rfl, Nat.le_of_ble_eq_true rfl⟩) hS (fun q _ h => hFc q h) hFc (fun r_39 u t H1 locs ht hvm hw hB hz1 hk1 hS => ?_)
                      subst hw
                      obtain ⟨hP1, hD1, hf39_0⟩ := hB
                      rw [ht] at hP1
                      obtain ⟨hP, hD⟩ := va_join (wr := [(nu, .inr (5, [.ref au, .int lu])), (au, .inl (cI, cap, .inl fu))]) (w1 := []) hP hD [] [0, 1] rfl rfl (by decide) (by decide) hk1 hFc hP1 hD1
                      generalize H1 = H at hP hS ⊢
                      have hP : va_P (dC, dI) vwCl [(nu, .inr (5, [.ref au, .int lu])), (au, .inl (cI, cap, .inl fu))] H := hP
                      have hD : va_D A [(nu, .inr (5, [.ref au, .int lu])), (au, .inl (cI, cap, .inl fu))] := hD
                      refine lv_goto (tgt := 96) hx hb dX2_decodeNumber_92 (by decide) ?_
                      have hP9 := hP.sub (ws' := [(nu, .inr (5, [.ref au, .int lu])), (au, .inl (cI, cap, .inl fu))]) [0, 1] rfl
                      have hD9 := hD.sub (ws' := [(nu, .inr (5, [.ref au, .int lu])), (au, .inl (cI, cap, .inl fu))]) [0, 1] (by decide) rfl
                      rw [hQQ]
                      exact W.iret (v := r_39) hx hb hr (fun t ht hW => ⟨⟨r_39, r_39, rfl, rfl, ⟨by rw [ht]; exact hP9, hD9, Or.inl ⟨(p_.toInt - fr.toInt - 2).toNat + 3, nb, DN_of (B := bo fu en.toInt fr.toNatClampNeg) hni (by rw [← hb12]; omega) (by show bt fu en.toInt fr.toNatClampNeg = 38; omega) (by show bt fu en.toInt (fr.toNatClampNeg + 1) = 35; omega) (by omega) (by omega) (by omega) (by omega), by omega, by omega, by omega⟩⟩⟩, hS.F ht⟩) hS.2.2 dX2_decodeNumber_96
        exact LOOP_38 _ 0 x_8 _ _ _ (Nat.lt_succ_self _) (by decide) (by show 2 ≤ x_8.toInt ∧ x_8.toInt ≤ 2408; omega) (by show fr.toInt + 2 ≤ x_8.toInt ∧ x_8.toInt ≤ fr.toInt + 8; omega) (NI_0 (by omega) rfl) hP hD hS (lv_sub hl [0, 1, 2, 3, 4] rfl)
      · have tc_7 : ¬ r_6.toInt = 35 := v_ne c_7
        refine lv_iconst (v := (-1)) hx hb dX2_decodeNumber_29 (by decide) ?_
        have hP9 := hP.sub (ws' := [(nu, .inr (5, [.ref au, .int lu])), (au, .inl (cI, cap, .inl fu))]) [0, 1] rfl
        have hD9 := hD.sub (ws' := [(nu, .inr (5, [.ref au, .int lu])), (au, .inl (cI, cap, .inl fu))]) [0, 1] (by decide) rfl
        rw [hQQ]
        exact W.iret (v := (-1)) hx hb hr (fun t ht hW => ⟨⟨(-1), (-1), rfl, rfl, ⟨by rw [ht]; exact hP9, hD9, Or.inr ⟨rfl, fun l x h => by have o1 := bt_c fu en.toInt (fr.toNatClampNeg + 1); unfold DNa DN at h; omega⟩⟩⟩, hS.F ht⟩) hS.2.2 dX2_decodeNumber_30
