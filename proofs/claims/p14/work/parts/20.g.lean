/-! 20.a.rows -/
section
theorem dX5_length_0 : decode cX5_length 0 = .ok (.aload_n 0, 1) := by decide +kernel
theorem dX5_length_1 : decode cX5_length 1 = .ok (.getfield 21, 3) := by decide +kernel
theorem dX5_length_4 : decode cX5_length 4 = .ok (.ireturn, 1) := by decide +kernel
theorem dX5_get_0 : decode cX5_get 0 = .ok (.iload_n 1, 1) := by decide +kernel
theorem dX5_get_1 : decode cX5_get 1 = .ok (.ifCond .lt 20, 3) := by decide +kernel
theorem dX5_get_21 : decode cX5_get 21 = .ok (.iconst (-1), 1) := by decide +kernel
theorem dX5_get_22 : decode cX5_get 22 = .ok (.ireturn, 1) := by decide +kernel
theorem dX5_get_4 : decode cX5_get 4 = .ok (.iload_n 1, 1) := by decide +kernel
theorem dX5_get_5 : decode cX5_get 5 = .ok (.aload_n 0, 1) := by decide +kernel
theorem dX5_get_6 : decode cX5_get 6 = .ok (.getfield 21, 3) := by decide +kernel
theorem dX5_get_9 : decode cX5_get 9 = .ok (.if_icmp .ge 12, 3) := by decide +kernel
theorem dX5_get_12 : decode cX5_get 12 = .ok (.aload_n 0, 1) := by decide +kernel
theorem dX5_get_13 : decode cX5_get 13 = .ok (.getfield 15, 3) := by decide +kernel
theorem dX5_get_16 : decode cX5_get 16 = .ok (.iload_n 1, 1) := by decide +kernel
theorem dX5_get_17 : decode cX5_get 17 = .ok (.iaload, 1) := by decide +kernel
theorem dX5_get_18 : decode cX5_get 18 = .ok (.goto 4, 3) := by decide +kernel
theorem dX5_add_0 : decode cX5_add 0 = .ok (.aload_n 0, 1) := by decide +kernel
theorem dX5_add_1 : decode cX5_add 1 = .ok (.getfield 21, 3) := by decide +kernel
theorem dX5_add_4 : decode cX5_add 4 = .ok (.aload_n 0, 1) := by decide +kernel
theorem dX5_add_5 : decode cX5_add 5 = .ok (.getfield 15, 3) := by decide +kernel
theorem dX5_add_8 : decode cX5_add 8 = .ok (.arraylength, 1) := by decide +kernel
theorem dX5_add_9 : decode cX5_add 9 = .ok (.if_icmp .lt 5, 3) := by decide +kernel
theorem dX5_add_14 : decode cX5_add 14 = .ok (.aload_n 0, 1) := by decide +kernel
theorem dX5_add_15 : decode cX5_add 15 = .ok (.getfield 15, 3) := by decide +kernel
theorem dX5_add_18 : decode cX5_add 18 = .ok (.aload_n 0, 1) := by decide +kernel
theorem dX5_add_19 : decode cX5_add 19 = .ok (.getfield 21, 3) := by decide +kernel
theorem dX5_add_22 : decode cX5_add 22 = .ok (.iload_n 1, 1) := by decide +kernel
theorem dX5_add_23 : decode cX5_add 23 = .ok (.iastore, 1) := by decide +kernel
theorem dX5_add_24 : decode cX5_add 24 = .ok (.aload_n 0, 1) := by decide +kernel
theorem dX5_add_25 : decode cX5_add 25 = .ok (.dup, 1) := by decide +kernel
theorem dX5_add_26 : decode cX5_add 26 = .ok (.getfield 21, 3) := by decide +kernel
theorem dX5_add_29 : decode cX5_add 29 = .ok (.iconst 1, 1) := by decide +kernel
theorem dX5_add_30 : decode cX5_add 30 = .ok (.iadd, 1) := by decide +kernel
theorem dX5_add_31 : decode cX5_add 31 = .ok (.putfield 21, 3) := by decide +kernel
theorem dX5_add_34 : decode cX5_add 34 = .ok (.iconst 1, 1) := by decide +kernel
theorem dX5_add_35 : decode cX5_add 35 = .ok (.ireturn, 1) := by decide +kernel
theorem dX5_add_12 : decode cX5_add 12 = .ok (.iconst 0, 1) := by decide +kernel
theorem dX5_add_13 : decode cX5_add 13 = .ok (.ireturn, 1) := by decide +kernel
theorem dX5_cut_0 : decode cX5_cut 0 = .ok (.iload_n 1, 1) := by decide +kernel
theorem dX5_cut_1 : decode cX5_cut 1 = .ok (.ifCond .lt 16, 3) := by decide +kernel
theorem dX5_cut_17 : decode cX5_cut 17 = .ok (.return_, 1) := by decide +kernel
theorem dX5_cut_4 : decode cX5_cut 4 = .ok (.iload_n 1, 1) := by decide +kernel
theorem dX5_cut_5 : decode cX5_cut 5 = .ok (.aload_n 0, 1) := by decide +kernel
theorem dX5_cut_6 : decode cX5_cut 6 = .ok (.getfield 21, 3) := by decide +kernel
theorem dX5_cut_9 : decode cX5_cut 9 = .ok (.if_icmp .ge 8, 3) := by decide +kernel
theorem dX5_cut_12 : decode cX5_cut 12 = .ok (.aload_n 0, 1) := by decide +kernel
theorem dX5_cut_13 : decode cX5_cut 13 = .ok (.iload_n 1, 1) := by decide +kernel
theorem dX5_cut_14 : decode cX5_cut 14 = .ok (.putfield 21, 3) := by decide +kernel
theorem dX5_addAll_0 : decode cX5_addAll 0 = .ok (.aload_n 1, 1) := by decide +kernel
theorem dX5_addAll_1 : decode cX5_addAll 1 = .ok (.getfield 21, 3) := by decide +kernel
theorem dX5_addAll_4 : decode cX5_addAll 4 = .ok (.aload_n 0, 1) := by decide +kernel
theorem dX5_addAll_5 : decode cX5_addAll 5 = .ok (.getfield 15, 3) := by decide +kernel
theorem dX5_addAll_8 : decode cX5_addAll 8 = .ok (.arraylength, 1) := by decide +kernel
theorem dX5_addAll_9 : decode cX5_addAll 9 = .ok (.aload_n 0, 1) := by decide +kernel
theorem dX5_addAll_10 : decode cX5_addAll 10 = .ok (.getfield 21, 3) := by decide +kernel
theorem dX5_addAll_13 : decode cX5_addAll 13 = .ok (.isub, 1) := by decide +kernel
theorem dX5_addAll_14 : decode cX5_addAll 14 = .ok (.if_icmp .le 5, 3) := by decide +kernel
theorem dX5_addAll_19 : decode cX5_addAll 19 = .ok (.aload_n 1, 1) := by decide +kernel
theorem dX5_addAll_20 : decode cX5_addAll 20 = .ok (.getfield 15, 3) := by decide +kernel
theorem dX5_addAll_23 : decode cX5_addAll 23 = .ok (.iconst 0, 1) := by decide +kernel
theorem dX5_addAll_24 : decode cX5_addAll 24 = .ok (.aload_n 0, 1) := by decide +kernel
theorem dX5_addAll_25 : decode cX5_addAll 25 = .ok (.getfield 15, 3) := by decide +kernel
theorem dX5_addAll_28 : decode cX5_addAll 28 = .ok (.aload_n 0, 1) := by decide +kernel
theorem dX5_addAll_29 : decode cX5_addAll 29 = .ok (.getfield 21, 3) := by decide +kernel
theorem dX5_addAll_32 : decode cX5_addAll 32 = .ok (.aload_n 1, 1) := by decide +kernel
theorem dX5_addAll_33 : decode cX5_addAll 33 = .ok (.getfield 21, 3) := by decide +kernel
theorem dX5_addAll_36 : decode cX5_addAll 36 = .ok (.invokestatic 25, 3) := by decide +kernel
theorem dX5_addAll_39 : decode cX5_addAll 39 = .ok (.aload_n 0, 1) := by decide +kernel
theorem dX5_addAll_40 : decode cX5_addAll 40 = .ok (.dup, 1) := by decide +kernel
theorem dX5_addAll_41 : decode cX5_addAll 41 = .ok (.getfield 21, 3) := by decide +kernel
theorem dX5_addAll_44 : decode cX5_addAll 44 = .ok (.aload_n 1, 1) := by decide +kernel
theorem dX5_addAll_45 : decode cX5_addAll 45 = .ok (.getfield 21, 3) := by decide +kernel
theorem dX5_addAll_48 : decode cX5_addAll 48 = .ok (.iadd, 1) := by decide +kernel
theorem dX5_addAll_49 : decode cX5_addAll 49 = .ok (.putfield 21, 3) := by decide +kernel
theorem dX5_addAll_52 : decode cX5_addAll 52 = .ok (.iconst 1, 1) := by decide +kernel
theorem dX5_addAll_53 : decode cX5_addAll 53 = .ok (.ireturn, 1) := by decide +kernel
theorem dX5_addAll_17 : decode cX5_addAll 17 = .ok (.iconst 0, 1) := by decide +kernel
theorem dX5_addAll_18 : decode cX5_addAll 18 = .ok (.ireturn, 1) := by decide +kernel
theorem dX5_takeAll_0 : decode cX5_takeAll 0 = .ok (.aload_n 0, 1) := by decide +kernel
theorem dX5_takeAll_1 : decode cX5_takeAll 1 = .ok (.iconst 0, 1) := by decide +kernel
theorem dX5_takeAll_2 : decode cX5_takeAll 2 = .ok (.putfield 21, 3) := by decide +kernel
theorem dX5_takeAll_5 : decode cX5_takeAll 5 = .ok (.aload_n 0, 1) := by decide +kernel
theorem dX5_takeAll_6 : decode cX5_takeAll 6 = .ok (.aload_n 1, 1) := by decide +kernel
set_option maxRecDepth 20000 in
theorem ggX5_takeAll_X5_addAll : GoodIn wsX5_takeAll wsX5_addAll := goodIn_r _ [6, 1, 7, 8, 9, 10, 11, 12, 13] rfl (by decide +kernel)
set_option maxRecDepth 20000 in
theorem gX5_takeAll_X5_addAll : GoodIn wsX5_takeAll (wsV RX5 31 RX5 yX5_addAll wsX5_addAll) := goodIn_app (goodIn_r _ [2, 3, 4, 5] rfl (by decide +kernel)) ggX5_takeAll_X5_addAll
theorem dX5_takeAll_7 : decode cX5_takeAll 7 = .ok (.invokevirtual 31, 3) := by decide +kernel
theorem dX5_takeAll_10 : decode cX5_takeAll 10 = .ok (.ireturn, 1) := by decide +kernel

end

/-! 20.numbers -/
section
set_option maxHeartbeats 40000000 in
set_option maxRecDepth 100000 in
theorem m_X5_length (l : Launch) (dC : Nat → ClassId) (dI : Nat → Nat → Nat) (cI cS : ClassId) (sz : Nat) (nu : Nat) (au : Nat) (lu : Int32)  : Met l yX5_length wsX5_length ({ frames := 0, cells := 0, slots := 0, locals := 0 } : Room) (va_Pc [.ref nu] (fun U => U.heap.size = sz ∧ va_P (dC, dI) vwCl [(nu, .inr (5, [.ref au, .int lu]))] U.heap ∧ va_K (dC, dI) vwCl [(cI, .int), (cS, .short)] U ∧ va_D (fun _ => True) [(nu, .inr (5, [.ref au, .int lu]))])) (va_Qi (fun (r : Int32) (u : Int32) => r = u) (fun (r : Int32) t => va_P (dC, dI) vwCl [(nu, .inr (5, [.ref au, .int lu]))] t.heap ∧ va_D (va_A [(nu, .inr (5, [.ref au, .int lu]))] sz) [(nu, .inr (5, [.ref au, .int lu]))] ∧ (r = lu)) (va_A [(nu, .inr (5, [.ref au, .int lu]))] sz)) 0 0 (va_A [(nu, .inr (5, [.ref au, .int lu]))] sz) := by
  refine Met.ofW (cc := cX5_length) (maxL := 1) (ret := (some .int)) (by decide) rfl ?_
  intro p e s m args below meth c s₁ B hml hv
  obtain ⟨rfl, hsz, hP, hK, hD0⟩ := hv
  have hx := B.exec
  have hb := B.bytes
  have hr := B.returns
  have hts := atoms_spec (ws := wsX5_length) B.pre
  have hown : s.vm.findClass RX5 = some m.cls := findClass_of_methodNamed B.named
  have hlocks := B.notSynchronized
  have in_X5 : ∀ w ∈ wsX50, w ∈ wsX5_length := fun _ h => List.mem_cons_of_mem _ (List.mem_append_right _ (h))
  subst hsz
  have hD := hD0.self (sz := s.heap.size)
  generalize hAe : va_A [(nu, .inr (5, [.ref au, .int lu]))] s.heap.size = A at hD ⊢
  have hA : ∀ q : Nat, s.heap.size ≤ q → A q := fun q h => by rw [← hAe]; exact Or.inr h
  have hS : va_S A s.heap s.heap [] := va_S.rf
  have hP : va_P (dC, dI) vwCl [(nu, .inr (5, [.ref au, .int lu]))] s.heap := hP
  have hl := lv_entry ([.ref nu]) (n := 1) (Nat.le_of_ble_eq_true rfl)
  rw [lg_entry_eq]
  generalize (lg_sl ([.ref nu]) ++ List.replicate (1 - (lg_sl ([.ref nu])).length) Slot.unset).toArray = ls at hl ⊢
  have hl : lv_has ls 1 [(0, .ref nu)] := hl
  obtain ⟨QQ, hQQ⟩ : ∃ QQ : Array Value → State → Outcome → State → Prop, QQ = va_Qi (fun (r : Int32) (u : Int32) => r = u) (fun (r : Int32) t => va_P (dC, dI) vwCl [(nu, .inr (5, [.ref au, .int lu]))] t.heap ∧ va_D A [(nu, .inr (5, [.ref au, .int lu]))] ∧ (r = lu)) A := ⟨_, rfl⟩
  rw [← hQQ]
  refine lv_aload_n hx hb dX5_length_0 rfl (lv_at hl 0 rfl) ?_
  refine va_get (D := (dC, dI)) (ci := 5) (v := .int lu) (C := RX5) (T := TX5) (N := 2) hx hb hts in_X5 hown hK hP 0 rfl rfl 1 (by decide) (hts (.fieldLink RX5 21 "TextMender$Numbers" "length" "I") (List.mem_of_getElem? (i := 1) rfl)) (fun _ h9 => h9) rfl dX5_length_1 ?_
  have hP9 := hP.sub (ws' := [(nu, .inr (5, [.ref au, .int lu]))]) [0] rfl
  have hD9 := hD.sub (ws' := [(nu, .inr (5, [.ref au, .int lu]))]) [0] (by decide +kernel) rfl
  rw [hQQ]
  exact W.iret (v := lu) hx hb hr (fun t ht hW => ⟨⟨lu, lu, rfl, rfl, ⟨by rw [ht]; exact hP9, hD9, rfl⟩⟩, hS.F ht⟩) hS.2.2 dX5_length_4

set_option maxHeartbeats 40000000 in
set_option maxRecDepth 100000 in
theorem m_X5_get (l : Launch) (dC : Nat → ClassId) (dI : Nat → Nat → Nat) (cI cS : ClassId) (sz : Nat) (nu : Nat) (au : Nat) (cap : Nat) (lu : Int32) (fu : Nat → Int32) (i : Int32) (g_lu : 0 ≤ lu.toInt ∧ lu.toInt ≤ (cap : Int)) (hcap : cap ≤ 2400) : Met l yX5_get wsX5_get ({ frames := 0, cells := 0, slots := 0, locals := 0 } : Room) (va_Pc [.ref nu, .int i] (fun U => U.heap.size = sz ∧ va_P (dC, dI) vwCl [(nu, .inr (5, [.ref au, .int lu])), (au, .inl (cI, cap, .inl fu))] U.heap ∧ va_K (dC, dI) vwCl [(cI, .int), (cS, .short)] U ∧ va_D (fun _ => True) [(nu, .inr (5, [.ref au, .int lu])), (au, .inl (cI, cap, .inl fu))])) (va_Qi (fun (r : Int32) (u : Int32) => r = u) (fun (r : Int32) t => va_P (dC, dI) vwCl [(nu, .inr (5, [.ref au, .int lu])), (au, .inl (cI, cap, .inl fu))] t.heap ∧ va_D (va_A [(nu, .inr (5, [.ref au, .int lu])), (au, .inl (cI, cap, .inl fu))] sz) [(nu, .inr (5, [.ref au, .int lu])), (au, .inl (cI, cap, .inl fu))] ∧ (F_get lu i r fu)) (va_A [(nu, .inr (5, [.ref au, .int lu])), (au, .inl (cI, cap, .inl fu))] sz)) 0 0 (va_A [(nu, .inr (5, [.ref au, .int lu])), (au, .inl (cI, cap, .inl fu))] sz) := by
  refine Met.ofW (cc := cX5_get) (maxL := 2) (ret := (some .int)) (by decide) rfl ?_
  intro p e s m args below meth c s₁ B hml hv
  obtain ⟨rfl, hsz, hP, hK, hD0⟩ := hv
  have hx := B.exec
  have hb := B.bytes
  have hr := B.returns
  have hts := atoms_spec (ws := wsX5_get) B.pre
  have hown : s.vm.findClass RX5 = some m.cls := findClass_of_methodNamed B.named
  have hlocks := B.notSynchronized
  have in_X5 : ∀ w ∈ wsX50, w ∈ wsX5_get := fun _ h => List.mem_cons_of_mem _ (List.mem_append_right _ (h))
  subst hsz
  have hD := hD0.self (sz := s.heap.size)
  generalize hAe : va_A [(nu, .inr (5, [.ref au, .int lu])), (au, .inl (cI, cap, .inl fu))] s.heap.size = A at hD ⊢
  have hA : ∀ q : Nat, s.heap.size ≤ q → A q := fun q h => by rw [← hAe]; exact Or.inr h
  have hS : va_S A s.heap s.heap [] := va_S.rf
  have hP : va_P (dC, dI) vwCl [(nu, .inr (5, [.ref au, .int lu])), (au, .inl (cI, cap, .inl fu))] s.heap := hP
  have hl := lv_entry ([.ref nu, .int i]) (n := 2) (Nat.le_of_ble_eq_true rfl)
  rw [lg_entry_eq]
  generalize (lg_sl ([.ref nu, .int i]) ++ List.replicate (2 - (lg_sl ([.ref nu, .int i])).length) Slot.unset).toArray = ls at hl ⊢
  have hl : lv_has ls 2 [(0, .ref nu), (1, .int i)] := hl
  obtain ⟨QQ, hQQ⟩ : ∃ QQ : Array Value → State → Outcome → State → Prop, QQ = va_Qi (fun (r : Int32) (u : Int32) => r = u) (fun (r : Int32) t => va_P (dC, dI) vwCl [(nu, .inr (5, [.ref au, .int lu])), (au, .inl (cI, cap, .inl fu))] t.heap ∧ va_D A [(nu, .inr (5, [.ref au, .int lu])), (au, .inl (cI, cap, .inl fu))] ∧ (F_get lu i r fu)) A := ⟨_, rfl⟩
  rw [← hQQ]
  refine lv_iload_n hx hb dX5_get_0 rfl (lv_at hl 1 rfl) ?_
  refine lv_if_lt (tgt := 21) hx hb dX5_get_1 (by decide) (fun c_1 => ?_) (fun c_1 => ?_)
  · have tc_1 : i.toInt < 0 := v_lt c_1
    refine lv_iconst (v := (-1)) hx hb dX5_get_21 (by decide) ?_
    have hP9 := hP.sub (ws' := [(nu, .inr (5, [.ref au, .int lu])), (au, .inl (cI, cap, .inl fu))]) [0, 1] rfl
    have hD9 := hD.sub (ws' := [(nu, .inr (5, [.ref au, .int lu])), (au, .inl (cI, cap, .inl fu))]) [0, 1] (by decide +kernel) rfl
    rw [hQQ]
    exact W.iret (v := (-1)) hx hb hr (fun t ht hW => ⟨⟨(-1), (-1), rfl, rfl, ⟨by rw [ht]; exact hP9, hD9, by first | exact Or.inl ⟨by omega, by omega, by assumption⟩ | exact Or.inr ⟨by omega, rfl⟩⟩⟩, hS.F ht⟩) hS.2.2 dX5_get_22
  · have tc_1 : 0 ≤ i.toInt := v_nlt c_1
    refine lv_iload_n hx hb dX5_get_4 rfl (lv_at hl 1 rfl) ?_
    refine lv_aload_n hx hb dX5_get_5 rfl (lv_at hl 0 rfl) ?_
    refine va_get (D := (dC, dI)) (ci := 5) (v := .int lu) (C := RX5) (T := TX5) (N := 2) hx hb hts in_X5 hown hK hP 0 rfl rfl 1 (by decide) (hts (.fieldLink RX5 21 "TextMender$Numbers" "length" "I") (List.mem_of_getElem? (i := 1) rfl)) (fun _ h9 => h9) rfl dX5_get_6 ?_
    refine lv_icmp_ge (tgt := 21) hx hb dX5_get_9 (by decide) (fun c_2 => ?_) (fun c_2 => ?_)
    · have tc_2 : lu.toInt ≤ i.toInt := v_le c_2
      have rw2_0 := v_rng i
      refine lv_iconst (v := (-1)) hx hb dX5_get_21 (by decide) ?_
      have hP9 := hP.sub (ws' := [(nu, .inr (5, [.ref au, .int lu])), (au, .inl (cI, cap, .inl fu))]) [0, 1] rfl
      have hD9 := hD.sub (ws' := [(nu, .inr (5, [.ref au, .int lu])), (au, .inl (cI, cap, .inl fu))]) [0, 1] (by decide +kernel) rfl
      rw [hQQ]
      exact W.iret (v := (-1)) hx hb hr (fun t ht hW => ⟨⟨(-1), (-1), rfl, rfl, ⟨by rw [ht]; exact hP9, hD9, by first | exact Or.inl ⟨by omega, by omega, by assumption⟩ | exact Or.inr ⟨by omega, rfl⟩⟩⟩, hS.F ht⟩) hS.2.2 dX5_get_22
    · have tc_2 : i.toInt < lu.toInt := v_nle c_2
      have rw2_0 := v_rng i
      refine lv_aload_n hx hb dX5_get_12 rfl (lv_at hl 0 rfl) ?_
      refine va_get (D := (dC, dI)) (ci := 5) (v := .ref au) (C := RX5) (T := TX5) (N := 2) hx hb hts in_X5 hown hK hP 0 rfl rfl 0 (by decide) (hts (.fieldLink RX5 15 "TextMender$Numbers" "numbers" "[I") (List.mem_of_getElem? (i := 2) rfl)) (fun _ h9 => h9) rfl dX5_get_13 ?_
      refine lv_iload_n hx hb dX5_get_16 rfl (lv_at hl 1 rfl) ?_
      refine va_iald hx hb hK hP 1 0 rfl rfl (v_in (by omega)) dX5_get_17 ?_
      refine lv_topi (fun x_3 ex_3 => ?_)
      refine lv_goto (tgt := 22) hx hb dX5_get_18 (by decide) ?_
      have hP9 := hP.sub (ws' := [(nu, .inr (5, [.ref au, .int lu])), (au, .inl (cI, cap, .inl fu))]) [0, 1] rfl
      have hD9 := hD.sub (ws' := [(nu, .inr (5, [.ref au, .int lu])), (au, .inl (cI, cap, .inl fu))]) [0, 1] (by decide +kernel) rfl
      rw [hQQ]
      exact W.iret (v := x_3) hx hb hr (fun t ht hW => ⟨⟨x_3, x_3, rfl, rfl, ⟨by rw [ht]; exact hP9, hD9, by first | exact Or.inl ⟨by omega, by omega, by assumption⟩ | exact Or.inr ⟨by omega, rfl⟩⟩⟩, hS.F ht⟩) hS.2.2 dX5_get_22

set_option maxHeartbeats 40000000 in
set_option maxRecDepth 100000 in
theorem m_X5_add (l : Launch) (dC : Nat → ClassId) (dI : Nat → Nat → Nat) (cI cS : ClassId) (sz : Nat) (nu : Nat) (au : Nat) (cap : Nat) (lu : Int32) (fu : Nat → Int32) (v : Int32) (g_lu : 0 ≤ lu.toInt ∧ lu.toInt ≤ (cap : Int)) (hcap : cap ≤ 2400) : Met l yX5_add wsX5_add ({ frames := 0, cells := 0, slots := 0, locals := 0 } : Room) (va_Pc [.ref nu, .int v] (fun U => U.heap.size = sz ∧ va_P (dC, dI) vwCl [(nu, .inr (5, [.ref au, .int lu])), (au, .inl (cI, cap, .inl fu))] U.heap ∧ va_K (dC, dI) vwCl [(cI, .int), (cS, .short)] U ∧ va_D (fun _ => True) [(nu, .inr (5, [.ref au, .int lu])), (au, .inl (cI, cap, .inl fu))])) (va_Qi (fun (r : Int32) (u : Int32) => r = u) (fun (r : Int32) t => ∃ (lu' : Int32) (fu' : Nat → Int32), va_P (dC, dI) vwCl [(nu, .inr (5, [.ref au, .int lu'])), (au, .inl (cI, cap, .inl fu'))] t.heap ∧ va_D (va_A [(nu, .inr (5, [.ref au, .int lu])), (au, .inl (cI, cap, .inl fu))] sz) [(nu, .inr (5, [.ref au, .int lu'])), (au, .inl (cI, cap, .inl fu'))] ∧ (0 ≤ lu'.toInt ∧ lu'.toInt ≤ (cap : Int)) ∧ (0 ≤ r.toInt ∧ r.toInt ≤ 1) ∧ (F_add cap lu lu' r fu fu' v)) (va_A [(nu, .inr (5, [.ref au, .int lu])), (au, .inl (cI, cap, .inl fu))] sz)) 0 0 (va_A [(nu, .inr (5, [.ref au, .int lu])), (au, .inl (cI, cap, .inl fu))] sz) := by
  refine Met.ofW (cc := cX5_add) (maxL := 2) (ret := (some .boolean)) (by decide) rfl ?_
  intro p e s m args below meth c s₁ B hml hv
  obtain ⟨rfl, hsz, hP, hK, hD0⟩ := hv
  have hx := B.exec
  have hb := B.bytes
  have hr := B.returns
  have hts := atoms_spec (ws := wsX5_add) B.pre
  have hown : s.vm.findClass RX5 = some m.cls := findClass_of_methodNamed B.named
  have hlocks := B.notSynchronized
  have in_X5 : ∀ w ∈ wsX50, w ∈ wsX5_add := fun _ h => List.mem_cons_of_mem _ (List.mem_append_right _ (h))
  subst hsz
  have hD := hD0.self (sz := s.heap.size)
  generalize hAe : va_A [(nu, .inr (5, [.ref au, .int lu])), (au, .inl (cI, cap, .inl fu))] s.heap.size = A at hD ⊢
  have hA : ∀ q : Nat, s.heap.size ≤ q → A q := fun q h => by rw [← hAe]; exact Or.inr h
  have hS : va_S A s.heap s.heap [] := va_S.rf
  have hP : va_P (dC, dI) vwCl [(nu, .inr (5, [.ref au, .int lu])), (au, .inl (cI, cap, .inl fu))] s.heap := hP
  have hl := lv_entry ([.ref nu, .int v]) (n := 2) (Nat.le_of_ble_eq_true rfl)
  rw [lg_entry_eq]
  generalize (lg_sl ([.ref nu, .int v]) ++ List.replicate (2 - (lg_sl ([.ref nu, .int v])).length) Slot.unset).toArray = ls at hl ⊢
  have hl : lv_has ls 2 [(0, .ref nu), (1, .int v)] := hl
  obtain ⟨QQ, hQQ⟩ : ∃ QQ : Array Value → State → Outcome → State → Prop, QQ = va_Qi (fun (r : Int32) (u : Int32) => r = u) (fun (r : Int32) t => ∃ (lu' : Int32) (fu' : Nat → Int32), va_P (dC, dI) vwCl [(nu, .inr (5, [.ref au, .int lu'])), (au, .inl (cI, cap, .inl fu'))] t.heap ∧ va_D A [(nu, .inr (5, [.ref au, .int lu'])), (au, .inl (cI, cap, .inl fu'))] ∧ (0 ≤ lu'.toInt ∧ lu'.toInt ≤ (cap : Int)) ∧ (0 ≤ r.toInt ∧ r.toInt ≤ 1) ∧ (F_add cap lu lu' r fu fu' v)) A := ⟨_, rfl⟩
  rw [← hQQ]
  refine lv_aload_n hx hb dX5_add_0 rfl (lv_at hl 0 rfl) ?_
  refine va_get (D := (dC, dI)) (ci := 5) (v := .int lu) (C := RX5) (T := TX5) (N := 2) hx hb hts in_X5 hown hK hP 0 rfl rfl 1 (by decide) (hts (.fieldLink RX5 21 "TextMender$Numbers" "length" "I") (List.mem_of_getElem? (i := 1) rfl)) (fun _ h9 => h9) rfl dX5_add_1 ?_
  refine lv_aload_n hx hb dX5_add_4 rfl (lv_at hl 0 rfl) ?_
  refine va_get (D := (dC, dI)) (ci := 5) (v := .ref au) (C := RX5) (T := TX5) (N := 2) hx hb hts in_X5 hown hK hP 0 rfl rfl 0 (by decide) (hts (.fieldLink RX5 15 "TextMender$Numbers" "numbers" "[I") (List.mem_of_getElem? (i := 2) rfl)) (fun _ h9 => h9) rfl dX5_add_5 ?_
  refine va_alen hx hb hK hP 1 0 rfl rfl (v := Int32.ofNat cap) rfl dX5_add_8 ?_
  refine lv_topi (fun x_1 ex_1 => ?_)
  have tx_1 : x_1.toInt = (cap : Int) := by rw [ex_1]; exact v_nat (by omega)
  refine lv_icmp_lt (tgt := 14) hx hb dX5_add_9 (by decide) (fun c_2 => ?_) (fun c_2 => ?_)
  · have tc_2 : lu.toInt < x_1.toInt := v_lt c_2
    refine lv_aload_n hx hb dX5_add_14 rfl (lv_at hl 0 rfl) ?_
    refine va_get (D := (dC, dI)) (ci := 5) (v := .ref au) (C := RX5) (T := TX5) (N := 2) hx hb hts in_X5 hown hK hP 0 rfl rfl 0 (by decide) (hts (.fieldLink RX5 15 "TextMender$Numbers" "numbers" "[I") (List.mem_of_getElem? (i := 2) rfl)) (fun _ h9 => h9) rfl dX5_add_15 ?_
    refine lv_aload_n hx hb dX5_add_18 rfl (lv_at hl 0 rfl) ?_
    refine va_get (D := (dC, dI)) (ci := 5) (v := .int lu) (C := RX5) (T := TX5) (N := 2) hx hb hts in_X5 hown hK hP 0 rfl rfl 1 (by decide) (hts (.fieldLink RX5 21 "TextMender$Numbers" "length" "I") (List.mem_of_getElem? (i := 1) rfl)) (fun _ h9 => h9) rfl dX5_add_19 ?_
    refine lv_iload_n hx hb dX5_add_22 rfl (lv_at hl 1 rfl) ?_
    refine va_iast hx hb hK hP hD hS 1 0 rfl rfl (v_in (by omega)) dX5_add_23 (fun H locs hPn hDn hSn => ?_)
    clear hP hD hS
    have hP : va_P (dC, dI) vwCl [(nu, .inr (5, [.ref au, .int lu])), (au, .inl (cI, cap, .inl (upd fu (lu : Int32).toNatClampNeg v)))] H := hPn
    have hD : va_D A [(nu, .inr (5, [.ref au, .int lu])), (au, .inl (cI, cap, .inl (upd fu (lu : Int32).toNatClampNeg v)))] := hDn
    have hS := hSn
    clear hPn hDn hSn
    obtain ⟨f_3, ef_3⟩ : ∃ g : Nat → Int32, g = upd fu (lu : Int32).toNatClampNeg v := ⟨_, rfl⟩
    rw [← ef_3] at hP hD
    refine lv_aload_n hx hb dX5_add_24 rfl (lv_at hl 0 rfl) ?_
    refine lv_dup hx hb dX5_add_25 rfl ?_
    refine va_get (D := (dC, dI)) (ci := 5) (v := .int lu) (C := RX5) (T := TX5) (N := 2) hx hb hts in_X5 hown hK hP 0 rfl rfl 1 (by decide) (hts (.fieldLink RX5 21 "TextMender$Numbers" "length" "I") (List.mem_of_getElem? (i := 1) rfl)) (fun _ h9 => h9) rfl dX5_add_26 ?_
    refine lv_iconst (v := 1) hx hb dX5_add_29 (by decide) ?_
    refine lv_iadd hx hb dX5_add_30 ?_
    refine lv_topi (fun x_4 ex_4 => ?_)
    have tx_4 : x_4.toInt = lu.toInt + 1 := v_add ex_4 (by show -2147483648 ≤ lu.toInt + 1; omega) (by show lu.toInt + 1 < 2147483648; omega)
    refine va_put (D := (dC, dI)) (ci := 5) (v := .int x_4) (ty := .int) (C := RX5) (T := TX5) (N := 2) hx hb hts in_X5 tyX5 tyX5_ok nmX5 hown hK hP hD hS 0 rfl rfl 1 (by decide) (hts (.fieldLink RX5 21 "TextMender$Numbers" "length" "I") (List.mem_of_getElem? (i := 1) rfl)) (fun _ h9 => h9) rfl (by decide +kernel) rfl rfl (Nat.le_of_ble_eq_true rfl) dX5_add_31 (fun H locs hPn hDn hSn => ?_)
    clear hP hD hS
    have hP : va_P (dC, dI) vwCl [(nu, .inr (5, [.ref au, .int x_4])), (au, .inl (cI, cap, .inl f_3))] H := hPn
    have hD : va_D A [(nu, .inr (5, [.ref au, .int x_4])), (au, .inl (cI, cap, .inl f_3))] := hDn
    have hS := hSn
    clear hPn hDn hSn
    refine lv_iconst (v := 1) hx hb dX5_add_34 (by decide) ?_
    have hP9 := hP.sub (ws' := [(nu, .inr (5, [.ref au, .int x_4])), (au, .inl (cI, cap, .inl f_3))]) [0, 1] rfl
    have hD9 := hD.sub (ws' := [(nu, .inr (5, [.ref au, .int x_4])), (au, .inl (cI, cap, .inl f_3))]) [0, 1] (by decide +kernel) rfl
    rw [hQQ]
    exact W.zret (v := 1) (ty := .boolean) hx hb hr (rfl) (fun t ht hW => ⟨⟨1, 1, rfl, rfl, ⟨x_4, f_3, by rw [ht]; exact hP9, hD9, by omega, by decide, by first | exact Or.inl ⟨by omega, by omega, rfl, by assumption⟩ | exact Or.inr ⟨by omega, rfl, rfl, rfl⟩⟩⟩, hS.F ht⟩) hS.2.2 dX5_add_35
  · have tc_2 : x_1.toInt ≤ lu.toInt := v_nlt c_2
    refine lv_iconst (v := 0) hx hb dX5_add_12 (by decide) ?_
    have hP9 := hP.sub (ws' := [(nu, .inr (5, [.ref au, .int lu])), (au, .inl (cI, cap, .inl fu))]) [0, 1] rfl
    have hD9 := hD.sub (ws' := [(nu, .inr (5, [.ref au, .int lu])), (au, .inl (cI, cap, .inl fu))]) [0, 1] (by decide +kernel) rfl
    rw [hQQ]
    exact W.zret (v := 0) (ty := .boolean) hx hb hr (rfl) (fun t ht hW => ⟨⟨0, 0, rfl, rfl, ⟨lu, fu, by rw [ht]; exact hP9, hD9, g_lu, by decide, by first | exact Or.inl ⟨by omega, by omega, rfl, by assumption⟩ | exact Or.inr ⟨by omega, rfl, rfl, rfl⟩⟩⟩, hS.F ht⟩) hS.2.2 dX5_add_13

set_option maxHeartbeats 40000000 in
set_option maxRecDepth 100000 in
theorem m_X5_cut (l : Launch) (dC : Nat → ClassId) (dI : Nat → Nat → Nat) (cI cS : ClassId) (sz : Nat) (nu : Nat) (au : Nat) (lu : Int32) (n : Int32) (g_lu : 0 ≤ lu.toInt ∧ lu.toInt ≤ 2147483647) : Met l yX5_cut wsX5_cut ({ frames := 0, cells := 0, slots := 0, locals := 0 } : Room) (va_Pc [.ref nu, .int n] (fun U => U.heap.size = sz ∧ va_P (dC, dI) vwCl [(nu, .inr (5, [.ref au, .int lu]))] U.heap ∧ va_K (dC, dI) vwCl [(cI, .int), (cS, .short)] U ∧ va_D (fun _ => True) [(nu, .inr (5, [.ref au, .int lu]))])) (va_Qv (fun (_ : Unit) => True) (fun _ t => ∃ (lu' : Int32), va_P (dC, dI) vwCl [(nu, .inr (5, [.ref au, .int lu']))] t.heap ∧ va_D (va_A [(nu, .inr (5, [.ref au, .int lu]))] sz) [(nu, .inr (5, [.ref au, .int lu']))] ∧ (0 ≤ lu'.toInt ∧ lu'.toInt ≤ 2147483647) ∧ (lu'.toInt ≤ lu.toInt) ∧ (F_cut lu lu' n)) (va_A [(nu, .inr (5, [.ref au, .int lu]))] sz)) 0 0 (va_A [(nu, .inr (5, [.ref au, .int lu]))] sz) := by
  refine Met.ofW (cc := cX5_cut) (maxL := 2) (ret := none) (by decide) rfl ?_
  intro p e s m args below meth c s₁ B hml hv
  obtain ⟨rfl, hsz, hP, hK, hD0⟩ := hv
  have hx := B.exec
  have hb := B.bytes
  have hr := B.returns
  have hts := atoms_spec (ws := wsX5_cut) B.pre
  have hown : s.vm.findClass RX5 = some m.cls := findClass_of_methodNamed B.named
  have hlocks := B.notSynchronized
  have in_X5 : ∀ w ∈ wsX50, w ∈ wsX5_cut := fun _ h => List.mem_cons_of_mem _ (List.mem_append_right _ (h))
  subst hsz
  have hD := hD0.self (sz := s.heap.size)
  generalize hAe : va_A [(nu, .inr (5, [.ref au, .int lu]))] s.heap.size = A at hD ⊢
  have hA : ∀ q : Nat, s.heap.size ≤ q → A q := fun q h => by rw [← hAe]; exact Or.inr h
  have hS : va_S A s.heap s.heap [] := va_S.rf
  have hP : va_P (dC, dI) vwCl [(nu, .inr (5, [.ref au, .int lu]))] s.heap := hP
  have hl := lv_entry ([.ref nu, .int n]) (n := 2) (Nat.le_of_ble_eq_true rfl)
  rw [lg_entry_eq]
  generalize (lg_sl ([.ref nu, .int n]) ++ List.replicate (2 - (lg_sl ([.ref nu, .int n])).length) Slot.unset).toArray = ls at hl ⊢
  have hl : lv_has ls 2 [(0, .ref nu), (1, .int n)] := hl
  obtain ⟨QQ, hQQ⟩ : ∃ QQ : Array Value → State → Outcome → State → Prop, QQ = va_Qv (fun (_ : Unit) => True) (fun _ t => ∃ (lu' : Int32), va_P (dC, dI) vwCl [(nu, .inr (5, [.ref au, .int lu']))] t.heap ∧ va_D A [(nu, .inr (5, [.ref au, .int lu']))] ∧ (0 ≤ lu'.toInt ∧ lu'.toInt ≤ 2147483647) ∧ (lu'.toInt ≤ lu.toInt) ∧ (F_cut lu lu' n)) A := ⟨_, rfl⟩
  rw [← hQQ]
  refine lv_iload_n hx hb dX5_cut_0 rfl (lv_at hl 1 rfl) ?_
  refine lv_if_lt (tgt := 17) hx hb dX5_cut_1 (by decide) (fun c_1 => ?_) (fun c_1 => ?_)
  · have tc_1 : n.toInt < 0 := v_lt c_1
    have hP9 := hP.sub (ws' := [(nu, .inr (5, [.ref au, .int lu]))]) [0] rfl
    have hD9 := hD.sub (ws' := [(nu, .inr (5, [.ref au, .int lu]))]) [0] (by decide +kernel) rfl
    rw [hQQ]
    exact W.vret hx hb hr (fun t ht hW => ⟨⟨(), rfl, trivial, ⟨lu, by rw [ht]; exact hP9, hD9, g_lu, by show lu.toInt ≤ lu.toInt; omega, by first | exact Or.inl ⟨by omega, by omega, rfl⟩ | exact Or.inr ⟨by omega, rfl⟩⟩⟩, hS.F ht⟩) hS.2.2 dX5_cut_17
  · have tc_1 : 0 ≤ n.toInt := v_nlt c_1
    refine lv_iload_n hx hb dX5_cut_4 rfl (lv_at hl 1 rfl) ?_
    refine lv_aload_n hx hb dX5_cut_5 rfl (lv_at hl 0 rfl) ?_
    refine va_get (D := (dC, dI)) (ci := 5) (v := .int lu) (C := RX5) (T := TX5) (N := 2) hx hb hts in_X5 hown hK hP 0 rfl rfl 1 (by decide) (hts (.fieldLink RX5 21 "TextMender$Numbers" "length" "I") (List.mem_of_getElem? (i := 1) rfl)) (fun _ h9 => h9) rfl dX5_cut_6 ?_
    refine lv_icmp_ge (tgt := 17) hx hb dX5_cut_9 (by decide) (fun c_2 => ?_) (fun c_2 => ?_)
    · have tc_2 : lu.toInt ≤ n.toInt := v_le c_2
      have rw2_0 := v_rng n
      have rw2_1 := v_rng lu
      have hP9 := hP.sub (ws' := [(nu, .inr (5, [.ref au, .int lu]))]) [0] rfl
      have hD9 := hD.sub (ws' := [(nu, .inr (5, [.ref au, .int lu]))]) [0] (by decide +kernel) rfl
      rw [hQQ]
      exact W.vret hx hb hr (fun t ht hW => ⟨⟨(), rfl, trivial, ⟨lu, by rw [ht]; exact hP9, hD9, g_lu, by show lu.toInt ≤ lu.toInt; omega, by first | exact Or.inl ⟨by omega, by omega, rfl⟩ | exact Or.inr ⟨by omega, rfl⟩⟩⟩, hS.F ht⟩) hS.2.2 dX5_cut_17
    · have tc_2 : n.toInt < lu.toInt := v_nle c_2
      have rw2_0 := v_rng n
      have rw2_1 := v_rng lu
      refine lv_aload_n hx hb dX5_cut_12 rfl (lv_at hl 0 rfl) ?_
      refine lv_iload_n hx hb dX5_cut_13 rfl (lv_at hl 1 rfl) ?_
      refine va_put (D := (dC, dI)) (ci := 5) (v := .int n) (ty := .int) (C := RX5) (T := TX5) (N := 2) hx hb hts in_X5 tyX5 tyX5_ok nmX5 hown hK hP hD hS 0 rfl rfl 1 (by decide) (hts (.fieldLink RX5 21 "TextMender$Numbers" "length" "I") (List.mem_of_getElem? (i := 1) rfl)) (fun _ h9 => h9) rfl (by decide +kernel) rfl rfl (Nat.le_of_ble_eq_true rfl) dX5_cut_14 (fun H locs hPn hDn hSn => ?_)
      clear hP hD hS
      have hP : va_P (dC, dI) vwCl [(nu, .inr (5, [.ref au, .int n]))] H := hPn
      have hD : va_D A [(nu, .inr (5, [.ref au, .int n]))] := hDn
      have hS := hSn
      clear hPn hDn hSn
      have hP9 := hP.sub (ws' := [(nu, .inr (5, [.ref au, .int n]))]) [0] rfl
      have hD9 := hD.sub (ws' := [(nu, .inr (5, [.ref au, .int n]))]) [0] (by decide +kernel) rfl
      rw [hQQ]
      exact W.vret hx hb hr (fun t ht hW => ⟨⟨(), rfl, trivial, ⟨n, by rw [ht]; exact hP9, hD9, by omega, by show n.toInt ≤ lu.toInt; omega, by first | exact Or.inl ⟨by omega, by omega, rfl⟩ | exact Or.inr ⟨by omega, rfl⟩⟩⟩, hS.F ht⟩) hS.2.2 dX5_cut_17

set_option maxHeartbeats 40000000 in
set_option maxRecDepth 100000 in
theorem m_X5_addAll (l : Launch) (dC : Nat → ClassId) (dI : Nat → Nat → Nat) (cI cS : ClassId) (sz : Nat) (nu : Nat) (no : Nat) (au : Nat) (ao : Nat) (cap : Nat) (co : Nat) (lu : Int32) (fu : Nat → Int32) (lo : Int32) (fo : Nat → Int32) (g_lu : 0 ≤ lu.toInt ∧ lu.toInt ≤ (cap : Int)) (g_lo : 0 ≤ lo.toInt ∧ lo.toInt ≤ (co : Int)) (hcap : cap ≤ 2400) (hco : co ≤ 2400) : Met l yX5_addAll wsX5_addAll ({ frames := 1, cells := 0, slots := 0, locals := 48 } : Room) (va_Pc [.ref nu, .ref no] (fun U => U.heap.size = sz ∧ va_P (dC, dI) vwCl [(nu, .inr (5, [.ref au, .int lu])), (au, .inl (cI, cap, .inl fu)), (no, .inr (5, [.ref ao, .int lo])), (ao, .inl (cI, co, .inl fo))] U.heap ∧ va_K (dC, dI) vwCl [(cI, .int), (cS, .short)] U ∧ va_D (fun _ => True) [(nu, .inr (5, [.ref au, .int lu])), (au, .inl (cI, cap, .inl fu)), (no, .inr (5, [.ref ao, .int lo])), (ao, .inl (cI, co, .inl fo))])) (va_Qi (fun (r : Int32) (u : Int32) => r = u) (fun (r : Int32) t => ∃ (lu' : Int32) (fu' : Nat → Int32), va_P (dC, dI) vwCl [(nu, .inr (5, [.ref au, .int lu'])), (au, .inl (cI, cap, .inl fu')), (no, .inr (5, [.ref ao, .int lo])), (ao, .inl (cI, co, .inl fo))] t.heap ∧ va_D (va_A [(nu, .inr (5, [.ref au, .int lu])), (au, .inl (cI, cap, .inl fu)), (no, .inr (5, [.ref ao, .int lo])), (ao, .inl (cI, co, .inl fo))] sz) [(nu, .inr (5, [.ref au, .int lu'])), (au, .inl (cI, cap, .inl fu')), (no, .inr (5, [.ref ao, .int lo])), (ao, .inl (cI, co, .inl fo))] ∧ (0 ≤ lu'.toInt ∧ lu'.toInt ≤ (cap : Int)) ∧ (0 ≤ r.toInt ∧ r.toInt ≤ 1) ∧ (F_addAll cap lu lu' lo r fu fu' fo)) (va_A [(nu, .inr (5, [.ref au, .int lu])), (au, .inl (cI, cap, .inl fu)), (no, .inr (5, [.ref ao, .int lo])), (ao, .inl (cI, co, .inl fo))] sz)) 0 0 (va_A [(nu, .inr (5, [.ref au, .int lu])), (au, .inl (cI, cap, .inl fu)), (no, .inr (5, [.ref ao, .int lo])), (ao, .inl (cI, co, .inl fo))] sz) := by
  refine Met.ofW (cc := cX5_addAll) (maxL := 2) (ret := (some .boolean)) (by decide) rfl ?_
  intro p e s m args below meth c s₁ B hml hv
  obtain ⟨rfl, hsz, hP, hK, hD0⟩ := hv
  have hx := B.exec
  have hb := B.bytes
  have hr := B.returns
  have hts := atoms_spec (ws := wsX5_addAll) B.pre
  have hown : s.vm.findClass RX5 = some m.cls := findClass_of_methodNamed B.named
  have hlocks := B.notSynchronized
  have in_X5 : ∀ w ∈ wsX50, w ∈ wsX5_addAll := fun _ h => List.mem_cons_of_mem _ (List.mem_append_right _ (h))
  subst hsz
  have hD := hD0.self (sz := s.heap.size)
  generalize hAe : va_A [(nu, .inr (5, [.ref au, .int lu])), (au, .inl (cI, cap, .inl fu)), (no, .inr (5, [.ref ao, .int lo])), (ao, .inl (cI, co, .inl fo))] s.heap.size = A at hD ⊢
  have hA : ∀ q : Nat, s.heap.size ≤ q → A q := fun q h => by rw [← hAe]; exact Or.inr h
  have hS : va_S A s.heap s.heap [] := va_S.rf
  have hP : va_P (dC, dI) vwCl [(nu, .inr (5, [.ref au, .int lu])), (au, .inl (cI, cap, .inl fu)), (no, .inr (5, [.ref ao, .int lo])), (ao, .inl (cI, co, .inl fo))] s.heap := hP
  have hl := lv_entry ([.ref nu, .ref no]) (n := 2) (Nat.le_of_ble_eq_true rfl)
  rw [lg_entry_eq]
  generalize (lg_sl ([.ref nu, .ref no]) ++ List.replicate (2 - (lg_sl ([.ref nu, .ref no])).length) Slot.unset).toArray = ls at hl ⊢
  have hl : lv_has ls 2 [(0, .ref nu), (1, .ref no)] := hl
  obtain ⟨QQ, hQQ⟩ : ∃ QQ : Array Value → State → Outcome → State → Prop, QQ = va_Qi (fun (r : Int32) (u : Int32) => r = u) (fun (r : Int32) t => ∃ (lu' : Int32) (fu' : Nat → Int32), va_P (dC, dI) vwCl [(nu, .inr (5, [.ref au, .int lu'])), (au, .inl (cI, cap, .inl fu')), (no, .inr (5, [.ref ao, .int lo])), (ao, .inl (cI, co, .inl fo))] t.heap ∧ va_D A [(nu, .inr (5, [.ref au, .int lu'])), (au, .inl (cI, cap, .inl fu')), (no, .inr (5, [.ref ao, .int lo])), (ao, .inl (cI, co, .inl fo))] ∧ (0 ≤ lu'.toInt ∧ lu'.toInt ≤ (cap : Int)) ∧ (0 ≤ r.toInt ∧ r.toInt ≤ 1) ∧ (F_addAll cap lu lu' lo r fu fu' fo)) A := ⟨_, rfl⟩
  rw [← hQQ]
  refine lv_aload_n hx hb dX5_addAll_0 rfl (lv_at hl 1 rfl) ?_
  refine va_get (D := (dC, dI)) (ci := 5) (v := .int lo) (C := RX5) (T := TX5) (N := 2) hx hb hts in_X5 hown hK hP 2 rfl rfl 1 (by decide) (hts (.fieldLink RX5 21 "TextMender$Numbers" "length" "I") (List.mem_of_getElem? (i := 1) rfl)) (fun _ h9 => h9) rfl dX5_addAll_1 ?_
  refine lv_aload_n hx hb dX5_addAll_4 rfl (lv_at hl 0 rfl) ?_
  refine va_get (D := (dC, dI)) (ci := 5) (v := .ref au) (C := RX5) (T := TX5) (N := 2) hx hb hts in_X5 hown hK hP 0 rfl rfl 0 (by decide) (hts (.fieldLink RX5 15 "TextMender$Numbers" "numbers" "[I") (List.mem_of_getElem? (i := 2) rfl)) (fun _ h9 => h9) rfl dX5_addAll_5 ?_
  refine va_alen hx hb hK hP 1 0 rfl rfl (v := Int32.ofNat cap) rfl dX5_addAll_8 ?_
  refine lv_topi (fun x_1 ex_1 => ?_)
  have tx_1 : x_1.toInt = (cap : Int) := by rw [ex_1]; exact v_nat (by omega)
  refine lv_aload_n hx hb dX5_addAll_9 rfl (lv_at hl 0 rfl) ?_
  refine va_get (D := (dC, dI)) (ci := 5) (v := .int lu) (C := RX5) (T := TX5) (N := 2) hx hb hts in_X5 hown hK hP 0 rfl rfl 1 (by decide) (hts (.fieldLink RX5 21 "TextMender$Numbers" "length" "I") (List.mem_of_getElem? (i := 1) rfl)) (fun _ h9 => h9) rfl dX5_addAll_10 ?_
  refine lv_isub hx hb dX5_addAll_13 ?_
  refine lv_topi (fun x_2 ex_2 => ?_)
  have tx_2 : x_2.toInt = x_1.toInt - lu.toInt := v_sub ex_2 (by show -2147483648 ≤ x_1.toInt - lu.toInt; omega) (by show x_1.toInt - lu.toInt < 2147483648; omega)
  refine lv_icmp_le (tgt := 19) hx hb dX5_addAll_14 (by decide) (fun c_3 => ?_) (fun c_3 => ?_)
  · have tc_3 : lo.toInt ≤ x_2.toInt := v_le c_3
    refine lv_aload_n hx hb dX5_addAll_19 rfl (lv_at hl 1 rfl) ?_
    refine va_get (D := (dC, dI)) (ci := 5) (v := .ref ao) (C := RX5) (T := TX5) (N := 2) hx hb hts in_X5 hown hK hP 2 rfl rfl 0 (by decide) (hts (.fieldLink RX5 15 "TextMender$Numbers" "numbers" "[I") (List.mem_of_getElem? (i := 2) rfl)) (fun _ h9 => h9) rfl dX5_addAll_20 ?_
    refine lv_iconst (v := 0) hx hb dX5_addAll_23 (by decide) ?_
    refine lv_aload_n hx hb dX5_addAll_24 rfl (lv_at hl 0 rfl) ?_
    refine va_get (D := (dC, dI)) (ci := 5) (v := .ref au) (C := RX5) (T := TX5) (N := 2) hx hb hts in_X5 hown hK hP 0 rfl rfl 0 (by decide) (hts (.fieldLink RX5 15 "TextMender$Numbers" "numbers" "[I") (List.mem_of_getElem? (i := 2) rfl)) (fun _ h9 => h9) rfl dX5_addAll_25 ?_
    refine lv_aload_n hx hb dX5_addAll_28 rfl (lv_at hl 0 rfl) ?_
    refine va_get (D := (dC, dI)) (ci := 5) (v := .int lu) (C := RX5) (T := TX5) (N := 2) hx hb hts in_X5 hown hK hP 0 rfl rfl 1 (by decide) (hts (.fieldLink RX5 21 "TextMender$Numbers" "length" "I") (List.mem_of_getElem? (i := 1) rfl)) (fun _ h9 => h9) rfl dX5_addAll_29 ?_
    refine lv_aload_n hx hb dX5_addAll_32 rfl (lv_at hl 1 rfl) ?_
    refine va_get (D := (dC, dI)) (ci := 5) (v := .int lo) (C := RX5) (T := TX5) (N := 2) hx hb hts in_X5 hown hK hP 2 rfl rfl 1 (by decide) (hts (.fieldLink RX5 21 "TextMender$Numbers" "length" "I") (List.mem_of_getElem? (i := 1) rfl)) (fun _ h9 => h9) rfl dX5_addAll_33 ?_
    refine va_copyi hx hb (by rw [hml]; exact hl.1.symm) hown (hts (.methodLink RX5 25 arraycopyName) (List.mem_of_getElem? (i := 3) rfl)) (hts (.native arraycopyName) (List.mem_of_getElem? (i := 4) rfl)) (hts (.static arraycopyName) (List.mem_of_getElem? (i := 5) rfl)) (hts (.initialized "java/lang/System") (List.mem_of_getElem? (i := 6) rfl)) hK hP hD hS 3 1 0 0 rfl rfl rfl rfl rfl (by decide) (v_nneg (by omega)) (v_nneg (by omega)) (v_cp (by decide) (by omega) (by show (0 : Int) + _ ≤ _; omega)) (v_cp (by omega) (by omega) (by omega)) (fun i hi => rfl) (Nat.le_of_ble_eq_true rfl) (Nat.le_of_ble_eq_true rfl) dX5_addAll_36 (fun H locs hPn hDn hSn => ?_)
    clear hP hD hS
    have hP : va_P (dC, dI) vwCl [(nu, .inr (5, [.ref au, .int lu])), (au, .inl (cI, cap, .inl (va_cpy fo fu (0 : Int32).toNatClampNeg (lu : Int32).toNatClampNeg (lo : Int32).toNatClampNeg))), (no, .inr (5, [.ref ao, .int lo])), (ao, .inl (cI, co, .inl fo))] H := hPn
    have hD : va_D A [(nu, .inr (5, [.ref au, .int lu])), (au, .inl (cI, cap, .inl (va_cpy fo fu (0 : Int32).toNatClampNeg (lu : Int32).toNatClampNeg (lo : Int32).toNatClampNeg))), (no, .inr (5, [.ref ao, .int lo])), (ao, .inl (cI, co, .inl fo))] := hDn
    have hS := hSn
    clear hPn hDn hSn
    obtain ⟨f_4, ef_4⟩ : ∃ g : Nat → Int32, g = va_cpy fo fu (0 : Int32).toNatClampNeg (lu : Int32).toNatClampNeg (lo : Int32).toNatClampNeg := ⟨_, rfl⟩
    rw [← ef_4] at hP hD
    refine lv_aload_n hx hb dX5_addAll_39 rfl (lv_at hl 0 rfl) ?_
    refine lv_dup hx hb dX5_addAll_40 rfl ?_
    refine va_get (D := (dC, dI)) (ci := 5) (v := .int lu) (C := RX5) (T := TX5) (N := 2) hx hb hts in_X5 hown hK hP 0 rfl rfl 1 (by decide) (hts (.fieldLink RX5 21 "TextMender$Numbers" "length" "I") (List.mem_of_getElem? (i := 1) rfl)) (fun _ h9 => h9) rfl dX5_addAll_41 ?_
    refine lv_aload_n hx hb dX5_addAll_44 rfl (lv_at hl 1 rfl) ?_
    refine va_get (D := (dC, dI)) (ci := 5) (v := .int lo) (C := RX5) (T := TX5) (N := 2) hx hb hts in_X5 hown hK hP 2 rfl rfl 1 (by decide) (hts (.fieldLink RX5 21 "TextMender$Numbers" "length" "I") (List.mem_of_getElem? (i := 1) rfl)) (fun _ h9 => h9) rfl dX5_addAll_45 ?_
    refine lv_iadd hx hb dX5_addAll_48 ?_
    refine lv_topi (fun x_5 ex_5 => ?_)
    have tx_5 : x_5.toInt = lu.toInt + lo.toInt := v_add ex_5 (by show -2147483648 ≤ lu.toInt + lo.toInt; omega) (by show lu.toInt + lo.toInt < 2147483648; omega)
    refine va_put (D := (dC, dI)) (ci := 5) (v := .int x_5) (ty := .int) (C := RX5) (T := TX5) (N := 2) hx hb hts in_X5 tyX5 tyX5_ok nmX5 hown hK hP hD hS 0 rfl rfl 1 (by decide) (hts (.fieldLink RX5 21 "TextMender$Numbers" "length" "I") (List.mem_of_getElem? (i := 1) rfl)) (fun _ h9 => h9) rfl (by decide +kernel) rfl rfl (Nat.le_of_ble_eq_true rfl) dX5_addAll_49 (fun H locs hPn hDn hSn => ?_)
    clear hP hD hS
    have hP : va_P (dC, dI) vwCl [(nu, .inr (5, [.ref au, .int x_5])), (au, .inl (cI, cap, .inl f_4)), (no, .inr (5, [.ref ao, .int lo])), (ao, .inl (cI, co, .inl fo))] H := hPn
    have hD : va_D A [(nu, .inr (5, [.ref au, .int x_5])), (au, .inl (cI, cap, .inl f_4)), (no, .inr (5, [.ref ao, .int lo])), (ao, .inl (cI, co, .inl fo))] := hDn
    have hS := hSn
    clear hPn hDn hSn
    refine lv_iconst (v := 1) hx hb dX5_addAll_52 (by decide) ?_
    have hP9 := hP.sub (ws' := [(nu, .inr (5, [.ref au, .int x_5])), (au, .inl (cI, cap, .inl f_4)), (no, .inr (5, [.ref ao, .int lo])), (ao, .inl (cI, co, .inl fo))]) [0, 1, 2, 3] rfl
    have hD9 := hD.sub (ws' := [(nu, .inr (5, [.ref au, .int x_5])), (au, .inl (cI, cap, .inl f_4)), (no, .inr (5, [.ref ao, .int lo])), (ao, .inl (cI, co, .inl fo))]) [0, 1, 2, 3] (by decide +kernel) rfl
    rw [hQQ]
    exact W.zret (v := 1) (ty := .boolean) hx hb hr (rfl) (fun t ht hW => ⟨⟨1, 1, rfl, rfl, ⟨x_5, f_4, by rw [ht]; exact hP9, hD9, by omega, by decide, by first | exact Or.inl ⟨by omega, by omega, rfl, by assumption⟩ | exact Or.inr ⟨by omega, rfl, rfl, rfl⟩⟩⟩, hS.F ht⟩) hS.2.2 dX5_addAll_53
  · have tc_3 : x_2.toInt < lo.toInt := v_nle c_3
    refine lv_iconst (v := 0) hx hb dX5_addAll_17 (by decide) ?_
    have hP9 := hP.sub (ws' := [(nu, .inr (5, [.ref au, .int lu])), (au, .inl (cI, cap, .inl fu)), (no, .inr (5, [.ref ao, .int lo])), (ao, .inl (cI, co, .inl fo))]) [0, 1, 2, 3] rfl
    have hD9 := hD.sub (ws' := [(nu, .inr (5, [.ref au, .int lu])), (au, .inl (cI, cap, .inl fu)), (no, .inr (5, [.ref ao, .int lo])), (ao, .inl (cI, co, .inl fo))]) [0, 1, 2, 3] (by decide +kernel) rfl
    rw [hQQ]
    exact W.zret (v := 0) (ty := .boolean) hx hb hr (rfl) (fun t ht hW => ⟨⟨0, 0, rfl, rfl, ⟨lu, fu, by rw [ht]; exact hP9, hD9, g_lu, by decide, by first | exact Or.inl ⟨by omega, by omega, rfl, by assumption⟩ | exact Or.inr ⟨by omega, rfl, rfl, rfl⟩⟩⟩, hS.F ht⟩) hS.2.2 dX5_addAll_18

set_option maxHeartbeats 40000000 in
set_option maxRecDepth 100000 in
theorem m_X5_takeAll (l : Launch) (dC : Nat → ClassId) (dI : Nat → Nat → Nat) (cI cS : ClassId) (sz : Nat) (nu : Nat) (no : Nat) (au : Nat) (ao : Nat) (cap : Nat) (co : Nat) (lu : Int32) (fu : Nat → Int32) (lo : Int32) (fo : Nat → Int32) (g_lu : 0 ≤ lu.toInt ∧ lu.toInt ≤ (cap : Int)) (g_lo : 0 ≤ lo.toInt ∧ lo.toInt ≤ (co : Int)) (hcap : cap ≤ 2400) (hco : co ≤ 2400) : Met l yX5_takeAll wsX5_takeAll ({ frames := 2, cells := 0, slots := 0, locals := 69 } : Room) (va_Pc [.ref nu, .ref no] (fun U => U.heap.size = sz ∧ va_P (dC, dI) vwCl [(nu, .inr (5, [.ref au, .int lu])), (au, .inl (cI, cap, .inl fu)), (no, .inr (5, [.ref ao, .int lo])), (ao, .inl (cI, co, .inl fo))] U.heap ∧ va_K (dC, dI) vwCl [(cI, .int), (cS, .short)] U ∧ va_D (fun _ => True) [(nu, .inr (5, [.ref au, .int lu])), (au, .inl (cI, cap, .inl fu)), (no, .inr (5, [.ref ao, .int lo])), (ao, .inl (cI, co, .inl fo))])) (va_Qi (fun (r : Int32) (u : Int32) => r = u) (fun (r : Int32) t => ∃ (lu' : Int32) (fu' : Nat → Int32), va_P (dC, dI) vwCl [(nu, .inr (5, [.ref au, .int lu'])), (au, .inl (cI, cap, .inl fu')), (no, .inr (5, [.ref ao, .int lo])), (ao, .inl (cI, co, .inl fo))] t.heap ∧ va_D (va_A [(nu, .inr (5, [.ref au, .int lu])), (au, .inl (cI, cap, .inl fu)), (no, .inr (5, [.ref ao, .int lo])), (ao, .inl (cI, co, .inl fo))] sz) [(nu, .inr (5, [.ref au, .int lu'])), (au, .inl (cI, cap, .inl fu')), (no, .inr (5, [.ref ao, .int lo])), (ao, .inl (cI, co, .inl fo))] ∧ (0 ≤ lu'.toInt ∧ lu'.toInt ≤ (cap : Int)) ∧ (0 ≤ r.toInt ∧ r.toInt ≤ 1) ∧ (F_addAll cap 0 lu' lo r fu fu' fo)) (va_A [(nu, .inr (5, [.ref au, .int lu])), (au, .inl (cI, cap, .inl fu)), (no, .inr (5, [.ref ao, .int lo])), (ao, .inl (cI, co, .inl fo))] sz)) 0 0 (va_A [(nu, .inr (5, [.ref au, .int lu])), (au, .inl (cI, cap, .inl fu)), (no, .inr (5, [.ref ao, .int lo])), (ao, .inl (cI, co, .inl fo))] sz) := by
  refine Met.ofW (cc := cX5_takeAll) (maxL := 2) (ret := (some .boolean)) (by decide) rfl ?_
  intro p e s m args below meth c s₁ B hml hv
  obtain ⟨rfl, hsz, hP, hK, hD0⟩ := hv
  have hx := B.exec
  have hb := B.bytes
  have hr := B.returns
  have hts := atoms_spec (ws := wsX5_takeAll) B.pre
  have hown : s.vm.findClass RX5 = some m.cls := findClass_of_methodNamed B.named
  have hlocks := B.notSynchronized
  have in_X5 : ∀ w ∈ wsX50, w ∈ wsX5_takeAll := fun _ h => List.mem_cons_of_mem _ (List.mem_append_right _ (h))
  subst hsz
  have hD := hD0.self (sz := s.heap.size)
  generalize hAe : va_A [(nu, .inr (5, [.ref au, .int lu])), (au, .inl (cI, cap, .inl fu)), (no, .inr (5, [.ref ao, .int lo])), (ao, .inl (cI, co, .inl fo))] s.heap.size = A at hD ⊢
  have hA : ∀ q : Nat, s.heap.size ≤ q → A q := fun q h => by rw [← hAe]; exact Or.inr h
  have hS : va_S A s.heap s.heap [] := va_S.rf
  have hP : va_P (dC, dI) vwCl [(nu, .inr (5, [.ref au, .int lu])), (au, .inl (cI, cap, .inl fu)), (no, .inr (5, [.ref ao, .int lo])), (ao, .inl (cI, co, .inl fo))] s.heap := hP
  have hl := lv_entry ([.ref nu, .ref no]) (n := 2) (Nat.le_of_ble_eq_true rfl)
  rw [lg_entry_eq]
  generalize (lg_sl ([.ref nu, .ref no]) ++ List.replicate (2 - (lg_sl ([.ref nu, .ref no])).length) Slot.unset).toArray = ls at hl ⊢
  have hl : lv_has ls 2 [(0, .ref nu), (1, .ref no)] := hl
  obtain ⟨QQ, hQQ⟩ : ∃ QQ : Array Value → State → Outcome → State → Prop, QQ = va_Qi (fun (r : Int32) (u : Int32) => r = u) (fun (r : Int32) t => ∃ (lu' : Int32) (fu' : Nat → Int32), va_P (dC, dI) vwCl [(nu, .inr (5, [.ref au, .int lu'])), (au, .inl (cI, cap, .inl fu')), (no, .inr (5, [.ref ao, .int lo])), (ao, .inl (cI, co, .inl fo))] t.heap ∧ va_D A [(nu, .inr (5, [.ref au, .int lu'])), (au, .inl (cI, cap, .inl fu')), (no, .inr (5, [.ref ao, .int lo])), (ao, .inl (cI, co, .inl fo))] ∧ (0 ≤ lu'.toInt ∧ lu'.toInt ≤ (cap : Int)) ∧ (0 ≤ r.toInt ∧ r.toInt ≤ 1) ∧ (F_addAll cap 0 lu' lo r fu fu' fo)) A := ⟨_, rfl⟩
  rw [← hQQ]
  refine lv_aload_n hx hb dX5_takeAll_0 rfl (lv_at hl 0 rfl) ?_
  refine lv_iconst (v := 0) hx hb dX5_takeAll_1 (by decide) ?_
  refine va_put (D := (dC, dI)) (ci := 5) (v := .int 0) (ty := .int) (C := RX5) (T := TX5) (N := 2) hx hb hts in_X5 tyX5 tyX5_ok nmX5 hown hK hP hD hS 0 rfl rfl 1 (by decide) (hts (.fieldLink RX5 21 "TextMender$Numbers" "length" "I") (List.mem_of_getElem? (i := 1) rfl)) (fun _ h9 => h9) rfl (by decide +kernel) rfl rfl (Nat.le_of_ble_eq_true rfl) dX5_takeAll_2 (fun H locs hPn hDn hSn => ?_)
  clear hP hD hS
  have hP : va_P (dC, dI) vwCl [(nu, .inr (5, [.ref au, .int 0])), (au, .inl (cI, cap, .inl fu)), (no, .inr (5, [.ref ao, .int lo])), (ao, .inl (cI, co, .inl fo))] H := hPn
  have hD : va_D A [(nu, .inr (5, [.ref au, .int 0])), (au, .inl (cI, cap, .inl fu)), (no, .inr (5, [.ref ao, .int lo])), (ao, .inl (cI, co, .inl fo))] := hDn
  have hS := hSn
  clear hPn hDn hSn
  refine lv_aload_n hx hb dX5_takeAll_5 rfl (lv_at hl 0 rfl) ?_
  refine lv_aload_n hx hb dX5_takeAll_6 rfl (lv_at hl 1 rfl) ?_
  have hPc := hP.sub (ws' := [(nu, .inr (5, [.ref au, .int 0])), (au, .inl (cI, cap, .inl fu)), (no, .inr (5, [.ref ao, .int lo])), (ao, .inl (cI, co, .inl fo))]) [0, 1, 2, 3] rfl
  have hDc := hD.sub (ws' := [(nu, .inr (5, [.ref au, .int 0])), (au, .inl (cI, cap, .inl fu)), (no, .inr (5, [.ref ao, .int lo])), (ao, .inl (cI, co, .inl fo))]) [0, 1, 2, 3] (by decide +kernel) rfl
  have hFc := va_free (wc := [(nu, .inr (5, [.ref au, .int 0])), (au, .inl (cI, cap, .inl fu)), (no, .inr (5, [.ref ao, .int lo])), (ao, .inl (cI, co, .inl fo))]) hD hS hA [0, 1, 2, 3] rfl
  refine va_calli (va_runV (As := [.ref no]) (rest := []) ⟨hx, hb, hml, hown, hts⟩ (m_X5_addAll l dC dI cI cS H.size nu no au ao cap co 0 fu lo fo (by show 0 ≤ (0 : Int) ∧ (0 : Int) ≤ (cap : Int); omega) (g_lo) (by omega) (by omega)) (cwV 1 hts gX5_takeAll_X5_addAll rfl rfl rfl (by decide +kernel) ⟨Nat.le_of_ble_eq_true rfl, Nat.le_of_ble_eq_true rfl⟩) ⟨fun a U g mk q => by obtain ⟨q0, q1, qP, qK, qD⟩ := q; exact ⟨q0, q1, qP, va_K.moved (u := U) (U := U.calling g mk a) (Vm.Alike.refl U.vm) qK, qD⟩, va_recv hK hPc (ci := 5) (q0 := 0) rfl rfl, fun U hU hW => ⟨rfl, by rw [hU], by rw [hU]; exact hPc, va_K.moved hW.alike hK, hDc.weaken (fun _ _ _ _ => trivial)⟩⟩ rfl rfl hl.1 rfl (lv_room (Nat.le_of_ble_eq_true rfl)) dX5_takeAll_7 ⟨Nat.le_of_ble_eq_true rfl, Nat.le_of_ble_eq_true rfl⟩) hS (fun q _ h => hFc q h) hFc (fun r_1 u t H1 locs ht hvm hw hB hz1 hk1 hSn => ?_)
  subst hw
  obtain ⟨lu_1, fu_1, hP1, hD1, hf1_0, hf1_1, hf1_2⟩ := hB
  rw [ht] at hP1
  obtain ⟨hPn, hDn⟩ := va_join (wr := []) (w1 := [(nu, .inr (5, [.ref au, .int lu_1])), (au, .inl (cI, cap, .inl fu_1)), (no, .inr (5, [.ref ao, .int lo])), (ao, .inl (cI, co, .inl fo))]) hP hD [0, 1, 2, 3] [] rfl rfl (by decide +kernel) (by decide +kernel) hk1 hFc hP1 hD1
  clear hP hD hS hPc hDc hFc hk1 hz1 hvm ht hP1 hD1
  generalize H1 = H at hPn hSn ⊢
  have hP : va_P (dC, dI) vwCl [(nu, .inr (5, [.ref au, .int lu_1])), (au, .inl (cI, cap, .inl fu_1)), (no, .inr (5, [.ref ao, .int lo])), (ao, .inl (cI, co, .inl fo))] H := hPn
  have hD : va_D A [(nu, .inr (5, [.ref au, .int lu_1])), (au, .inl (cI, cap, .inl fu_1)), (no, .inr (5, [.ref ao, .int lo])), (ao, .inl (cI, co, .inl fo))] := hDn
  have hS := hSn
  clear hPn hDn hSn
  have hP9 := hP.sub (ws' := [(nu, .inr (5, [.ref au, .int lu_1])), (au, .inl (cI, cap, .inl fu_1)), (no, .inr (5, [.ref ao, .int lo])), (ao, .inl (cI, co, .inl fo))]) [0, 1, 2, 3] rfl
  have hD9 := hD.sub (ws' := [(nu, .inr (5, [.ref au, .int lu_1])), (au, .inl (cI, cap, .inl fu_1)), (no, .inr (5, [.ref ao, .int lo])), (ao, .inl (cI, co, .inl fo))]) [0, 1, 2, 3] (by decide +kernel) rfl
  rw [hQQ]
  exact W.zret (v := r_1) (ty := .boolean) hx hb hr (v_bool (by omega)) (fun t ht hW => ⟨⟨r_1, r_1, rfl, rfl, ⟨lu_1, fu_1, by rw [ht]; exact hP9, hD9, hf1_0, hf1_1, hf1_2⟩⟩, hS.F ht⟩) hS.2.2 dX5_takeAll_10

end

/-! 22.a.rows -/
section
theorem dJ7_fill_53178_0 : decode cJ7_fill_53178 0 = .ok (.iconst 0, 1) := by decide +kernel
theorem dJ7_fill_53178_1 : decode cJ7_fill_53178 1 = .ok (.istore_n 2, 1) := by decide +kernel
theorem dJ7_fill_53178_2 : decode cJ7_fill_53178 2 = .ok (.aload_n 0, 1) := by decide +kernel
theorem dJ7_fill_53178_3 : decode cJ7_fill_53178 3 = .ok (.arraylength, 1) := by decide +kernel
theorem dJ7_fill_53178_4 : decode cJ7_fill_53178 4 = .ok (.istore_n 3, 1) := by decide +kernel
theorem dJ7_fill_53178_5 : decode cJ7_fill_53178 5 = .ok (.iload_n 2, 1) := by decide +kernel
theorem dJ7_fill_53178_6 : decode cJ7_fill_53178 6 = .ok (.iload_n 3, 1) := by decide +kernel
theorem dJ7_fill_53178_7 : decode cJ7_fill_53178 7 = .ok (.if_icmp .ge 13, 3) := by decide +kernel
theorem dJ7_fill_53178_20 : decode cJ7_fill_53178 20 = .ok (.return_, 1) := by decide +kernel
theorem dJ7_fill_53178_10 : decode cJ7_fill_53178 10 = .ok (.aload_n 0, 1) := by decide +kernel
theorem dJ7_fill_53178_11 : decode cJ7_fill_53178 11 = .ok (.iload_n 2, 1) := by decide +kernel
theorem dJ7_fill_53178_12 : decode cJ7_fill_53178 12 = .ok (.iload_n 1, 1) := by decide +kernel
theorem dJ7_fill_53178_13 : decode cJ7_fill_53178 13 = .ok (.iastore, 1) := by decide +kernel
theorem dJ7_fill_53178_14 : decode cJ7_fill_53178 14 = .ok (.iinc 2 1, 3) := by decide +kernel
theorem dJ7_fill_53178_17 : decode cJ7_fill_53178 17 = .ok (.goto (-12), 3) := by decide +kernel
theorem dX10_length_0 : decode cX10_length 0 = .ok (.aload_n 0, 1) := by decide +kernel
theorem dX10_length_1 : decode cX10_length 1 = .ok (.getfield 27, 3) := by decide +kernel
theorem dX10_length_4 : decode cX10_length 4 = .ok (.ireturn, 1) := by decide +kernel
theorem dX10_empty_0 : decode cX10_empty 0 = .ok (.aload_n 0, 1) := by decide +kernel
theorem dX10_empty_1 : decode cX10_empty 1 = .ok (.getfield 9, 3) := by decide +kernel
theorem dX10_empty_4 : decode cX10_empty 4 = .ok (.iconst (-1), 1) := by decide +kernel
set_option maxRecDepth 20000 in
theorem ggX10_empty_J7_fill_53178 : GoodIn wsX10_empty wsJ7_fill_53178 := goodIn_r _ [7] rfl (by decide +kernel)
set_option maxRecDepth 20000 in
theorem gX10_empty_J7_fill_53178 : GoodIn wsX10_empty (va_wsS RX10 21 yJ7_fill_53178 wsJ7_fill_53178) := goodIn_app (goodIn_r _ [4, 5, 6] rfl (by decide +kernel)) ggX10_empty_J7_fill_53178
theorem dX10_empty_5 : decode cX10_empty 5 = .ok (.invokestatic 21, 3) := by decide +kernel
theorem dX10_empty_8 : decode cX10_empty 8 = .ok (.aload_n 0, 1) := by decide +kernel
theorem dX10_empty_9 : decode cX10_empty 9 = .ok (.getfield 18, 3) := by decide +kernel
theorem dX10_empty_12 : decode cX10_empty 12 = .ok (.iconst (-1), 1) := by decide +kernel
theorem dX10_empty_13 : decode cX10_empty 13 = .ok (.invokestatic 21, 3) := by decide +kernel
theorem dX10_empty_16 : decode cX10_empty 16 = .ok (.aload_n 0, 1) := by decide +kernel
theorem dX10_empty_17 : decode cX10_empty 17 = .ok (.iconst 0, 1) := by decide +kernel
theorem dX10_empty_18 : decode cX10_empty 18 = .ok (.putfield 27, 3) := by decide +kernel
theorem dX10_empty_21 : decode cX10_empty 21 = .ok (.return_, 1) := by decide +kernel
theorem dX10_letterFor_0 : decode cX10_letterFor 0 = .ok (.iload_n 1, 1) := by decide +kernel
theorem dX10_letterFor_1 : decode cX10_letterFor 1 = .ok (.ifCond .lt 19, 3) := by decide +kernel
theorem dX10_letterFor_20 : decode cX10_letterFor 20 = .ok (.iconst (-1), 1) := by decide +kernel
theorem dX10_letterFor_21 : decode cX10_letterFor 21 = .ok (.ireturn, 1) := by decide +kernel
theorem dX10_letterFor_4 : decode cX10_letterFor 4 = .ok (.iload_n 1, 1) := by decide +kernel
theorem dX10_letterFor_5 : decode cX10_letterFor 5 = .ok (.sipush 256, 3) := by decide +kernel
theorem dX10_letterFor_8 : decode cX10_letterFor 8 = .ok (.if_icmp .ge 12, 3) := by decide +kernel
theorem dX10_letterFor_11 : decode cX10_letterFor 11 = .ok (.aload_n 0, 1) := by decide +kernel
theorem dX10_letterFor_12 : decode cX10_letterFor 12 = .ok (.getfield 9, 3) := by decide +kernel
theorem dX10_letterFor_15 : decode cX10_letterFor 15 = .ok (.iload_n 1, 1) := by decide +kernel
theorem dX10_letterFor_16 : decode cX10_letterFor 16 = .ok (.iaload, 1) := by decide +kernel
theorem dX10_letterFor_17 : decode cX10_letterFor 17 = .ok (.goto 4, 3) := by decide +kernel
theorem dX10_placeFor_0 : decode cX10_placeFor 0 = .ok (.iload_n 1, 1) := by decide +kernel
theorem dX10_placeFor_1 : decode cX10_placeFor 1 = .ok (.ldc 45, 2) := by decide +kernel
theorem dX10_placeFor_3 : decode cX10_placeFor 3 = .ok (.imul, 1) := by decide +kernel
theorem dX10_placeFor_4 : decode cX10_placeFor 4 = .ok (.bipush 23, 2) := by decide +kernel
theorem dX10_placeFor_6 : decode cX10_placeFor 6 = .ok (.iushr, 1) := by decide +kernel
theorem dX10_placeFor_7 : decode cX10_placeFor 7 = .ok (.istore_n 2, 1) := by decide +kernel
theorem dX10_placeFor_8 : decode cX10_placeFor 8 = .ok (.iconst 0, 1) := by decide +kernel
theorem dX10_placeFor_9 : decode cX10_placeFor 9 = .ok (.istore_n 3, 1) := by decide +kernel
theorem dX10_placeFor_10 : decode cX10_placeFor 10 = .ok (.iload_n 3, 1) := by decide +kernel
theorem dX10_placeFor_11 : decode cX10_placeFor 11 = .ok (.sipush 512, 3) := by decide +kernel
theorem dX10_placeFor_14 : decode cX10_placeFor 14 = .ok (.if_icmp .ge 43, 3) := by decide +kernel
theorem dX10_placeFor_57 : decode cX10_placeFor 57 = .ok (.iconst (-1), 1) := by decide +kernel
theorem dX10_placeFor_58 : decode cX10_placeFor 58 = .ok (.ireturn, 1) := by decide +kernel
theorem dX10_placeFor_17 : decode cX10_placeFor 17 = .ok (.iload_n 2, 1) := by decide +kernel
theorem dX10_placeFor_18 : decode cX10_placeFor 18 = .ok (.iload_n 3, 1) := by decide +kernel
theorem dX10_placeFor_19 : decode cX10_placeFor 19 = .ok (.iadd, 1) := by decide +kernel
theorem dX10_placeFor_20 : decode cX10_placeFor 20 = .ok (.sipush 511, 3) := by decide +kernel
theorem dX10_placeFor_23 : decode cX10_placeFor 23 = .ok (.iand, 1) := by decide +kernel
theorem dX10_placeFor_24 : decode cX10_placeFor 24 = .ok (.istore 4, 2) := by decide +kernel
theorem dX10_placeFor_26 : decode cX10_placeFor 26 = .ok (.aload_n 0, 1) := by decide +kernel
theorem dX10_placeFor_27 : decode cX10_placeFor 27 = .ok (.getfield 18, 3) := by decide +kernel
theorem dX10_placeFor_30 : decode cX10_placeFor 30 = .ok (.iload 4, 2) := by decide +kernel
theorem dX10_placeFor_32 : decode cX10_placeFor 32 = .ok (.iaload, 1) := by decide +kernel
theorem dX10_placeFor_33 : decode cX10_placeFor 33 = .ok (.iconst (-1), 1) := by decide +kernel
theorem dX10_placeFor_34 : decode cX10_placeFor 34 = .ok (.if_icmp .eq 14, 3) := by decide +kernel
theorem dX10_placeFor_48 : decode cX10_placeFor 48 = .ok (.iload 4, 2) := by decide +kernel
theorem dX10_placeFor_50 : decode cX10_placeFor 50 = .ok (.ireturn, 1) := by decide +kernel
theorem dX10_placeFor_37 : decode cX10_placeFor 37 = .ok (.aload_n 0, 1) := by decide +kernel
theorem dX10_placeFor_38 : decode cX10_placeFor 38 = .ok (.getfield 15, 3) := by decide +kernel
theorem dX10_placeFor_41 : decode cX10_placeFor 41 = .ok (.iload 4, 2) := by decide +kernel
theorem dX10_placeFor_43 : decode cX10_placeFor 43 = .ok (.iaload, 1) := by decide +kernel
theorem dX10_placeFor_44 : decode cX10_placeFor 44 = .ok (.iload_n 1, 1) := by decide +kernel
theorem dX10_placeFor_45 : decode cX10_placeFor 45 = .ok (.if_icmp .ne 6, 3) := by decide +kernel
theorem dX10_placeFor_51 : decode cX10_placeFor 51 = .ok (.iinc 3 1, 3) := by decide +kernel
theorem dX10_placeFor_54 : decode cX10_placeFor 54 = .ok (.goto (-44), 3) := by decide +kernel
theorem dX10_byteFor_0 : decode cX10_byteFor 0 = .ok (.aload_n 0, 1) := by decide +kernel
theorem dX10_byteFor_1 : decode cX10_byteFor 1 = .ok (.iload_n 1, 1) := by decide +kernel
set_option maxRecDepth 20000 in
theorem ggX10_byteFor_X10_placeFor : GoodIn wsX10_byteFor wsX10_placeFor := goodIn_r _ [6, 7, 1, 8, 9, 10, 11, 12] rfl (by decide +kernel)
set_option maxRecDepth 20000 in
theorem gX10_byteFor_X10_placeFor : GoodIn wsX10_byteFor (wsV RX10 31 RX10 yX10_placeFor wsX10_placeFor) := goodIn_app (goodIn_r _ [2, 3, 4, 5] rfl (by decide +kernel)) ggX10_byteFor_X10_placeFor
theorem dX10_byteFor_2 : decode cX10_byteFor 2 = .ok (.invokevirtual 31, 3) := by decide +kernel
theorem dX10_byteFor_5 : decode cX10_byteFor 5 = .ok (.istore_n 2, 1) := by decide +kernel
theorem dX10_byteFor_6 : decode cX10_byteFor 6 = .ok (.iload_n 2, 1) := by decide +kernel
theorem dX10_byteFor_7 : decode cX10_byteFor 7 = .ok (.iconst (-1), 1) := by decide +kernel
theorem dX10_byteFor_8 : decode cX10_byteFor 8 = .ok (.if_icmp .ne 7, 3) := by decide +kernel
theorem dX10_byteFor_15 : decode cX10_byteFor 15 = .ok (.aload_n 0, 1) := by decide +kernel
theorem dX10_byteFor_16 : decode cX10_byteFor 16 = .ok (.getfield 18, 3) := by decide +kernel
theorem dX10_byteFor_19 : decode cX10_byteFor 19 = .ok (.iload_n 2, 1) := by decide +kernel
theorem dX10_byteFor_20 : decode cX10_byteFor 20 = .ok (.iaload, 1) := by decide +kernel
theorem dX10_byteFor_21 : decode cX10_byteFor 21 = .ok (.ireturn, 1) := by decide +kernel
theorem dX10_byteFor_11 : decode cX10_byteFor 11 = .ok (.iconst (-1), 1) := by decide +kernel
theorem dX10_byteFor_12 : decode cX10_byteFor 12 = .ok (.goto 9, 3) := by decide +kernel
theorem dX11_isLetter_0 : decode cX11_isLetter 0 = .ok (.iload_n 0, 1) := by decide +kernel
theorem dX11_isLetter_1 : decode cX11_isLetter 1 = .ok (.ifCond .lt 28, 3) := by decide +kernel
theorem dX11_isLetter_29 : decode cX11_isLetter 29 = .ok (.iconst 0, 1) := by decide +kernel
theorem dX11_isLetter_30 : decode cX11_isLetter 30 = .ok (.ireturn, 1) := by decide +kernel
theorem dX11_isLetter_4 : decode cX11_isLetter 4 = .ok (.iload_n 0, 1) := by decide +kernel
theorem dX11_isLetter_5 : decode cX11_isLetter 5 = .ok (.ldc_w 262, 3) := by decide +kernel
theorem dX11_isLetter_8 : decode cX11_isLetter 8 = .ok (.if_icmp .gt 21, 3) := by decide +kernel
theorem dX11_isLetter_11 : decode cX11_isLetter 11 = .ok (.iload_n 0, 1) := by decide +kernel
theorem dX11_isLetter_12 : decode cX11_isLetter 12 = .ok (.ldc_w 263, 3) := by decide +kernel
theorem dX11_isLetter_15 : decode cX11_isLetter 15 = .ok (.if_icmp .lt 10, 3) := by decide +kernel
theorem dX11_isLetter_25 : decode cX11_isLetter 25 = .ok (.iconst 1, 1) := by decide +kernel
theorem dX11_isLetter_26 : decode cX11_isLetter 26 = .ok (.goto 4, 3) := by decide +kernel
theorem dX11_isLetter_18 : decode cX11_isLetter 18 = .ok (.iload_n 0, 1) := by decide +kernel
theorem dX11_isLetter_19 : decode cX11_isLetter 19 = .ok (.ldc_w 264, 3) := by decide +kernel
theorem dX11_isLetter_22 : decode cX11_isLetter 22 = .ok (.if_icmp .le 7, 3) := by decide +kernel

end

/-! 22.told -/
section
set_option maxHeartbeats 40000000 in
set_option maxRecDepth 100000 in
theorem m_J7_fill_53178 (l : Launch) (dC : Nat → ClassId) (dI : Nat → Nat → Nat) (cI cS : ClassId) (sz : Nat) (ar : Nat) (n : Nat) (f : Nat → Int32) (v : Int32) (hn : n < 2 ^ 31) : Met l yJ7_fill_53178 wsJ7_fill_53178 ({ frames := 0, cells := 0, slots := 0, locals := 0 } : Room) (va_Pc [.ref ar, .int v] (fun U => U.heap.size = sz ∧ va_P (dC, dI) vwCl [(ar, .inl (cI, n, .inl f))] U.heap ∧ va_K (dC, dI) vwCl [(cI, .int), (cS, .short)] U ∧ va_D (fun _ => True) [(ar, .inl (cI, n, .inl f))])) (va_Qv (fun (_ : Unit) => True) (fun _ t => ∃ (f' : Nat → Int32), va_P (dC, dI) vwCl [(ar, .inl (cI, n, .inl f'))] t.heap ∧ va_D (va_A [(ar, .inl (cI, n, .inl f))] sz) [(ar, .inl (cI, n, .inl f'))] ∧ (F_fill n f' v)) (va_A [(ar, .inl (cI, n, .inl f))] sz)) 0 0 (va_A [(ar, .inl (cI, n, .inl f))] sz) := by
  refine Met.ofW (cc := cJ7_fill_53178) (maxL := 4) (ret := none) (by decide) rfl ?_
  intro p e s m args below meth c s₁ B hml hv
  obtain ⟨rfl, hsz, hP, hK, hD0⟩ := hv
  have hx := B.exec
  have hb := B.bytes
  have hr := B.returns
  have hts := atoms_spec (ws := wsJ7_fill_53178) B.pre
  have hown : s.vm.findClass RJ7 = some m.cls := findClass_of_methodNamed B.named
  have hlocks := B.notSynchronized
  subst hsz
  have hD := hD0.self (sz := s.heap.size)
  generalize hAe : va_A [(ar, .inl (cI, n, .inl f))] s.heap.size = A at hD ⊢
  have hA : ∀ q : Nat, s.heap.size ≤ q → A q := fun q h => by rw [← hAe]; exact Or.inr h
  have hS : va_S A s.heap s.heap [] := va_S.rf
  have hP : va_P (dC, dI) vwCl [(ar, .inl (cI, n, .inl f))] s.heap := hP
  have hl := lv_entry ([.ref ar, .int v]) (n := 4) (Nat.le_of_ble_eq_true rfl)
  rw [lg_entry_eq]
  generalize (lg_sl ([.ref ar, .int v]) ++ List.replicate (4 - (lg_sl ([.ref ar, .int v])).length) Slot.unset).toArray = ls at hl ⊢
  have hl : lv_has ls 4 [(0, .ref ar), (1, .int v)] := hl
  obtain ⟨QQ, hQQ⟩ : ∃ QQ : Array Value → State → Outcome → State → Prop, QQ = va_Qv (fun (_ : Unit) => True) (fun _ t => ∃ (f' : Nat → Int32), va_P (dC, dI) vwCl [(ar, .inl (cI, n, .inl f'))] t.heap ∧ va_D A [(ar, .inl (cI, n, .inl f'))] ∧ (F_fill n f' v)) A := ⟨_, rfl⟩
  rw [← hQQ]
  refine lv_iconst (v := 0) hx hb dJ7_fill_53178_0 (by decide) ?_
  refine lv_istore_n (lv' := [(2, .int 0), (0, .ref ar), (1, .int v)]) hx hb dJ7_fill_53178_1 rfl hl (by decide) rfl (fun ls hl => ?_)
  refine lv_aload_n hx hb dJ7_fill_53178_2 rfl (lv_at hl 1 rfl) ?_
  refine va_alen hx hb hK hP 0 0 rfl rfl (v := Int32.ofNat n) rfl dJ7_fill_53178_3 ?_
  refine lv_topi (fun x_1 ex_1 => ?_)
  have tx_1 : x_1.toInt = (n : Int) := by rw [ex_1]; exact v_nat (by omega)
  refine lv_istore_n (lv' := [(3, .int x_1), (2, .int 0), (0, .ref ar), (1, .int v)]) hx hb dJ7_fill_53178_4 rfl hl (by decide) rfl (fun ls hl => ?_)
  have LOOP_5 : ∀ (k_5 : Nat) (i : Int32) (f2 : Nat → Int32) (H : Heap) (locs : List Loc) (ls : Array Slot), MSd ((n : Int) - i.toInt : Int) k_5 → (0 ≤ i.toInt ∧ i.toInt ≤ (n : Int)) → (∀ j : Nat, (j : Int) < i.toInt → f2 j = v) → va_P (dC, dI) vwCl [(ar, .inl (cI, n, .inl f2))] H → va_D A [(ar, .inl (cI, n, .inl f2))] → va_S A s.heap H locs → lv_has ls 4 [(3, .int x_1), (2, .int i), (0, .ref ar), (1, .int v)] → W p l e (headSpec wsJ7_fill_53178 ({ frames := 0, cells := 0, slots := 0, locals := 0 } : Room)).room s m ([.ref ar, .int v] : List Value).toArray below meth c H locs 0 0 (MQ below QQ ([.ref ar, .int v] : List Value).toArray s 0 0 A) (F0 m 5 ls []) := by
    clear hP hD hS hl
    intro k_5
    induction k_5 with
    | zero =>
      intro i f2 H locs ls hm_5 g_i hfl hP hD hS hl
      exact ms_0 hm_5
    | succ k_5 ih_5 =>
      intro i f2 H locs ls hm_5 g_i hfl hP hD hS hl
      refine lv_iload_n hx hb dJ7_fill_53178_5 rfl (lv_at hl 1 rfl) ?_
      refine lv_iload_n hx hb dJ7_fill_53178_6 rfl (lv_at hl 0 rfl) ?_
      refine lv_icmp_ge (tgt := 20) hx hb dJ7_fill_53178_7 (by decide) (fun c_2 => ?_) (fun c_2 => ?_)
      · have tc_2 : x_1.toInt ≤ i.toInt := v_le c_2
        have rw2_0 := v_rng i
        have rw2_1 := v_rng x_1
        have hP9 := hP.sub (ws' := [(ar, .inl (cI, n, .inl f2))]) [0] rfl
        have hD9 := hD.sub (ws' := [(ar, .inl (cI, n, .inl f2))]) [0] (by decide +kernel) rfl
        rw [hQQ]
        exact W.vret hx hb hr (fun t ht hW => ⟨⟨(), rfl, trivial, ⟨f2, by rw [ht]; exact hP9, hD9, fun j hj => hfl j (by omega)⟩⟩, hS.F ht⟩) hS.2.2 dJ7_fill_53178_20
      · have tc_2 : i.toInt < x_1.toInt := v_nle c_2
        have rw2_0 := v_rng i
        have rw2_1 := v_rng x_1
        refine lv_aload_n hx hb dJ7_fill_53178_10 rfl (lv_at hl 2 rfl) ?_
        refine lv_iload_n hx hb dJ7_fill_53178_11 rfl (lv_at hl 1 rfl) ?_
        refine lv_iload_n hx hb dJ7_fill_53178_12 rfl (lv_at hl 3 rfl) ?_
        refine va_iast hx hb hK hP hD hS 0 0 rfl rfl (v_in (by omega)) dJ7_fill_53178_13 (fun H locs hPn hDn hSn => ?_)
        clear hP hD hS
        have hP : va_P (dC, dI) vwCl [(ar, .inl (cI, n, .inl (upd f2 (i : Int32).toNatClampNeg v)))] H := hPn
        have hD : va_D A [(ar, .inl (cI, n, .inl (upd f2 (i : Int32).toNatClampNeg v)))] := hDn
        have hS := hSn
        clear hPn hDn hSn
        obtain ⟨f_3, ef_3⟩ : ∃ g : Nat → Int32, g = upd f2 (i : Int32).toNatClampNeg v := ⟨_, rfl⟩
        rw [← ef_3] at hP hD
        obtain ⟨x_4, ex_4⟩ : ∃ y : Int32, y = i + 1 := ⟨_, rfl⟩
        have tx_4 : x_4.toInt = i.toInt + 1 := v_add ex_4 (by show -2147483648 ≤ i.toInt + 1; omega) (by show i.toInt + 1 < 2147483648; omega)
        refine lv_iinc (v := x_4) (lv' := [(2, .int x_4), (3, .int x_1), (0, .ref ar), (1, .int v)]) hx hb dJ7_fill_53178_14 hl (k := 1) rfl (by rw [ex_4]; rfl) (by decide) rfl (fun ls hl => ?_)
        refine lv_goto (tgt := 5) hx hb dJ7_fill_53178_17 (by decide) ?_
        exact ih_5 x_4 f_3 _ _ _ (ms_lt hm_5 (by show (((n : Int) - x_4.toInt : Int)) < (n : Int) - i.toInt; omega) (by show (0 : Int) < (n : Int) - i.toInt; omega)) (by show 0 ≤ x_4.toInt ∧ x_4.toInt ≤ (n : Int); omega) (v_fill ef_3 (by omega) hfl (by omega)) hP hD hS (lv_sub hl [1, 0, 2, 3] rfl)
  exact LOOP_5 _ 0 f _ _ _ (ms_s _) (by show 0 ≤ (0 : Int) ∧ (0 : Int) ≤ (n : Int); omega) (fun j hj => by exact absurd hj (by show ¬ (j : Int) < 0; omega)) hP hD hS (lv_sub hl [0, 1, 2, 3] rfl)

set_option maxHeartbeats 40000000 in
set_option maxRecDepth 100000 in
theorem m_X10_length (l : Launch) (dC : Nat → ClassId) (dI : Nat → Nat → Nat) (cI cS : ClassId) (sz : Nat) (ot : Nat) (at1 : Nat) (at2 : Nat) (at3 : Nat) (lt : Int32)  : Met l yX10_length wsX10_length ({ frames := 0, cells := 0, slots := 0, locals := 0 } : Room) (va_Pc [.ref ot] (fun U => U.heap.size = sz ∧ va_P (dC, dI) vwCl [(ot, .inr (10, [.ref at1, .ref at2, .ref at3, .int lt]))] U.heap ∧ va_K (dC, dI) vwCl [(cI, .int), (cS, .short)] U ∧ va_D (fun _ => True) [(ot, .inr (10, [.ref at1, .ref at2, .ref at3, .int lt]))])) (va_Qi (fun (r : Int32) (u : Int32) => r = u) (fun (r : Int32) t => va_P (dC, dI) vwCl [(ot, .inr (10, [.ref at1, .ref at2, .ref at3, .int lt]))] t.heap ∧ va_D (va_A [(ot, .inr (10, [.ref at1, .ref at2, .ref at3, .int lt]))] sz) [(ot, .inr (10, [.ref at1, .ref at2, .ref at3, .int lt]))] ∧ (r = lt)) (va_A [(ot, .inr (10, [.ref at1, .ref at2, .ref at3, .int lt]))] sz)) 0 0 (va_A [(ot, .inr (10, [.ref at1, .ref at2, .ref at3, .int lt]))] sz) := by
  refine Met.ofW (cc := cX10_length) (maxL := 1) (ret := (some .int)) (by decide) rfl ?_
  intro p e s m args below meth c s₁ B hml hv
  obtain ⟨rfl, hsz, hP, hK, hD0⟩ := hv
  have hx := B.exec
  have hb := B.bytes
  have hr := B.returns
  have hts := atoms_spec (ws := wsX10_length) B.pre
  have hown : s.vm.findClass RX10 = some m.cls := findClass_of_methodNamed B.named
  have hlocks := B.notSynchronized
  have in_X10 : ∀ w ∈ wsX100, w ∈ wsX10_length := fun _ h => List.mem_cons_of_mem _ (List.mem_append_right _ (h))
  subst hsz
  have hD := hD0.self (sz := s.heap.size)
  generalize hAe : va_A [(ot, .inr (10, [.ref at1, .ref at2, .ref at3, .int lt]))] s.heap.size = A at hD ⊢
  have hA : ∀ q : Nat, s.heap.size ≤ q → A q := fun q h => by rw [← hAe]; exact Or.inr h
  have hS : va_S A s.heap s.heap [] := va_S.rf
  have hP : va_P (dC, dI) vwCl [(ot, .inr (10, [.ref at1, .ref at2, .ref at3, .int lt]))] s.heap := hP
  have hl := lv_entry ([.ref ot]) (n := 1) (Nat.le_of_ble_eq_true rfl)
  rw [lg_entry_eq]
  generalize (lg_sl ([.ref ot]) ++ List.replicate (1 - (lg_sl ([.ref ot])).length) Slot.unset).toArray = ls at hl ⊢
  have hl : lv_has ls 1 [(0, .ref ot)] := hl
  obtain ⟨QQ, hQQ⟩ : ∃ QQ : Array Value → State → Outcome → State → Prop, QQ = va_Qi (fun (r : Int32) (u : Int32) => r = u) (fun (r : Int32) t => va_P (dC, dI) vwCl [(ot, .inr (10, [.ref at1, .ref at2, .ref at3, .int lt]))] t.heap ∧ va_D A [(ot, .inr (10, [.ref at1, .ref at2, .ref at3, .int lt]))] ∧ (r = lt)) A := ⟨_, rfl⟩
  rw [← hQQ]
  refine lv_aload_n hx hb dX10_length_0 rfl (lv_at hl 0 rfl) ?_
  refine va_get (D := (dC, dI)) (ci := 10) (v := .int lt) (C := RX10) (T := TX10) (N := 4) hx hb hts in_X10 hown hK hP 0 rfl rfl 3 (by decide) (hts (.fieldLink RX10 27 "TextMender$ToldCode" "length" "I") (List.mem_of_getElem? (i := 1) rfl)) (fun _ h9 => h9) rfl dX10_length_1 ?_
  have hP9 := hP.sub (ws' := [(ot, .inr (10, [.ref at1, .ref at2, .ref at3, .int lt]))]) [0] rfl
  have hD9 := hD.sub (ws' := [(ot, .inr (10, [.ref at1, .ref at2, .ref at3, .int lt]))]) [0] (by decide +kernel) rfl
  rw [hQQ]
  exact W.iret (v := lt) hx hb hr (fun t ht hW => ⟨⟨lt, lt, rfl, rfl, ⟨by rw [ht]; exact hP9, hD9, rfl⟩⟩, hS.F ht⟩) hS.2.2 dX10_length_4

set_option maxHeartbeats 40000000 in
set_option maxRecDepth 100000 in
theorem m_X10_empty (l : Launch) (dC : Nat → ClassId) (dI : Nat → Nat → Nat) (cI cS : ClassId) (sz : Nat) (ot : Nat) (at1 : Nat) (at2 : Nat) (at3 : Nat) (lt : Int32) (ft1 : Nat → Int32) (ft3 : Nat → Int32)  : Met l yX10_empty wsX10_empty ({ frames := 1, cells := 0, slots := 0, locals := 23 } : Room) (va_Pc [.ref ot] (fun U => U.heap.size = sz ∧ va_P (dC, dI) vwCl [(ot, .inr (10, [.ref at1, .ref at2, .ref at3, .int lt])), (at1, .inl (cI, 256, .inl ft1)), (at3, .inl (cI, 512, .inl ft3))] U.heap ∧ va_K (dC, dI) vwCl [(cI, .int), (cS, .short)] U ∧ va_D (fun _ => True) [(ot, .inr (10, [.ref at1, .ref at2, .ref at3, .int lt])), (at1, .inl (cI, 256, .inl ft1)), (at3, .inl (cI, 512, .inl ft3))])) (va_Qv (fun (_ : Unit) => True) (fun _ t => ∃ (lt' : Int32) (ft1' : Nat → Int32) (ft3' : Nat → Int32), va_P (dC, dI) vwCl [(ot, .inr (10, [.ref at1, .ref at2, .ref at3, .int lt'])), (at1, .inl (cI, 256, .inl ft1')), (at3, .inl (cI, 512, .inl ft3'))] t.heap ∧ va_D (va_A [(ot, .inr (10, [.ref at1, .ref at2, .ref at3, .int lt])), (at1, .inl (cI, 256, .inl ft1)), (at3, .inl (cI, 512, .inl ft3))] sz) [(ot, .inr (10, [.ref at1, .ref at2, .ref at3, .int lt'])), (at1, .inl (cI, 256, .inl ft1')), (at3, .inl (cI, 512, .inl ft3'))] ∧ (lt' = 0) ∧ (F_fill 256 ft1' (-1)) ∧ (F_fill 512 ft3' (-1))) (va_A [(ot, .inr (10, [.ref at1, .ref at2, .ref at3, .int lt])), (at1, .inl (cI, 256, .inl ft1)), (at3, .inl (cI, 512, .inl ft3))] sz)) 0 0 (va_A [(ot, .inr (10, [.ref at1, .ref at2, .ref at3, .int lt])), (at1, .inl (cI, 256, .inl ft1)), (at3, .inl (cI, 512, .inl ft3))] sz) := by
  refine Met.ofW (cc := cX10_empty) (maxL := 1) (ret := none) (by decide) rfl ?_
  intro p e s m args below meth c s₁ B hml hv
  obtain ⟨rfl, hsz, hP, hK, hD0⟩ := hv
  have hx := B.exec
  have hb := B.bytes
  have hr := B.returns
  have hts := atoms_spec (ws := wsX10_empty) B.pre
  have hown : s.vm.findClass RX10 = some m.cls := findClass_of_methodNamed B.named
  have hlocks := B.notSynchronized
  have in_X10 : ∀ w ∈ wsX100, w ∈ wsX10_empty := fun _ h => List.mem_cons_of_mem _ (List.mem_append_right _ (h))
  subst hsz
  have hD := hD0.self (sz := s.heap.size)
  generalize hAe : va_A [(ot, .inr (10, [.ref at1, .ref at2, .ref at3, .int lt])), (at1, .inl (cI, 256, .inl ft1)), (at3, .inl (cI, 512, .inl ft3))] s.heap.size = A at hD ⊢
  have hA : ∀ q : Nat, s.heap.size ≤ q → A q := fun q h => by rw [← hAe]; exact Or.inr h
  have hS : va_S A s.heap s.heap [] := va_S.rf
  have hP : va_P (dC, dI) vwCl [(ot, .inr (10, [.ref at1, .ref at2, .ref at3, .int lt])), (at1, .inl (cI, 256, .inl ft1)), (at3, .inl (cI, 512, .inl ft3))] s.heap := hP
  have hl := lv_entry ([.ref ot]) (n := 1) (Nat.le_of_ble_eq_true rfl)
  rw [lg_entry_eq]
  generalize (lg_sl ([.ref ot]) ++ List.replicate (1 - (lg_sl ([.ref ot])).length) Slot.unset).toArray = ls at hl ⊢
  have hl : lv_has ls 1 [(0, .ref ot)] := hl
  obtain ⟨QQ, hQQ⟩ : ∃ QQ : Array Value → State → Outcome → State → Prop, QQ = va_Qv (fun (_ : Unit) => True) (fun _ t => ∃ (lt' : Int32) (ft1' : Nat → Int32) (ft3' : Nat → Int32), va_P (dC, dI) vwCl [(ot, .inr (10, [.ref at1, .ref at2, .ref at3, .int lt'])), (at1, .inl (cI, 256, .inl ft1')), (at3, .inl (cI, 512, .inl ft3'))] t.heap ∧ va_D A [(ot, .inr (10, [.ref at1, .ref at2, .ref at3, .int lt'])), (at1, .inl (cI, 256, .inl ft1')), (at3, .inl (cI, 512, .inl ft3'))] ∧ (lt' = 0) ∧ (F_fill 256 ft1' (-1)) ∧ (F_fill 512 ft3' (-1))) A := ⟨_, rfl⟩
  rw [← hQQ]
  refine lv_aload_n hx hb dX10_empty_0 rfl (lv_at hl 0 rfl) ?_
  refine va_get (D := (dC, dI)) (ci := 10) (v := .ref at1) (C := RX10) (T := TX10) (N := 4) hx hb hts in_X10 hown hK hP 0 rfl rfl 0 (by decide) (hts (.fieldLink RX10 9 "TextMender$ToldCode" "letterOf" "[I") (List.mem_of_getElem? (i := 1) rfl)) (fun _ h9 => h9) rfl dX10_empty_1 ?_
  refine lv_iconst (v := (-1)) hx hb dX10_empty_4 (by decide) ?_
  have hPc := hP.sub (ws' := [(at1, .inl (cI, 256, .inl ft1))]) [1] rfl
  have hDc := hD.sub (ws' := [(at1, .inl (cI, 256, .inl ft1))]) [1] (by decide +kernel) rfl
  have hFc := va_free (wc := [(at1, .inl (cI, 256, .inl ft1))]) hD hS hA [1] rfl
  refine va_callv (va_runS (As := [.ref at1, .int (-1)]) (rest := []) ⟨hx, hb, hml, hown, hts⟩ (m_J7_fill_53178 l dC dI cI cS s.heap.size at1 256 ft1 (-1) (by omega)) (va_cwS 2 hts gX10_empty_J7_fill_53178 rfl rfl rfl (by decide +kernel) ⟨Nat.le_of_ble_eq_true rfl, Nat.le_of_ble_eq_true rfl⟩) ⟨fun a U g mk q => by obtain ⟨q0, q1, qP, qK, qD⟩ := q; exact ⟨q0, q1, qP, va_K.moved (u := U) (U := U.calling g mk a) (Vm.Alike.refl U.vm) qK, qD⟩, fun U hU hW => ⟨rfl, by rw [hU], by rw [hU]; exact hPc, va_K.moved hW.alike hK, hDc.weaken (fun _ _ _ _ => trivial)⟩⟩ rfl rfl hl.1 rfl (lv_room (Nat.le_of_ble_eq_true rfl)) dX10_empty_5 ⟨Nat.le_of_ble_eq_true rfl, Nat.le_of_ble_eq_true rfl⟩) hS (fun q _ h => hFc q h) hFc (fun u t H1 locs ht hvm hw hB hz1 hk1 hSn => ?_)
  obtain ⟨f_1, hP1, hD1, hf1_0⟩ := hB
  rw [ht] at hP1
  obtain ⟨hPn, hDn⟩ := va_join (wr := [(ot, .inr (10, [.ref at1, .ref at2, .ref at3, .int lt])), (at3, .inl (cI, 512, .inl ft3))]) (w1 := [(at1, .inl (cI, 256, .inl f_1))]) hP hD [1] [0, 2] rfl rfl (by decide +kernel) (by decide +kernel) hk1 hFc hP1 hD1
  clear hP hD hS hPc hDc hFc hk1 hz1 hvm ht hP1 hD1
  generalize H1 = H at hPn hSn ⊢
  have hP : va_P (dC, dI) vwCl [(ot, .inr (10, [.ref at1, .ref at2, .ref at3, .int lt])), (at3, .inl (cI, 512, .inl ft3)), (at1, .inl (cI, 256, .inl f_1))] H := hPn
  have hD : va_D A [(ot, .inr (10, [.ref at1, .ref at2, .ref at3, .int lt])), (at3, .inl (cI, 512, .inl ft3)), (at1, .inl (cI, 256, .inl f_1))] := hDn
  have hS := hSn
  clear hPn hDn hSn
  refine lv_aload_n hx hb dX10_empty_8 rfl (lv_at hl 0 rfl) ?_
  refine va_get (D := (dC, dI)) (ci := 10) (v := .ref at3) (C := RX10) (T := TX10) (N := 4) hx hb hts in_X10 hown hK hP 0 rfl rfl 2 (by decide) (hts (.fieldLink RX10 18 "TextMender$ToldCode" "placeByte" "[I") (List.mem_of_getElem? (i := 2) rfl)) (fun _ h9 => h9) rfl dX10_empty_9 ?_
  refine lv_iconst (v := (-1)) hx hb dX10_empty_12 (by decide) ?_
  have hPc := hP.sub (ws' := [(at3, .inl (cI, 512, .inl ft3))]) [1] rfl
  have hDc := hD.sub (ws' := [(at3, .inl (cI, 512, .inl ft3))]) [1] (by decide +kernel) rfl
  have hFc := va_free (wc := [(at3, .inl (cI, 512, .inl ft3))]) hD hS hA [1] rfl
  refine va_callv (va_runS (As := [.ref at3, .int (-1)]) (rest := []) ⟨hx, hb, hml, hown, hts⟩ (m_J7_fill_53178 l dC dI cI cS H.size at3 512 ft3 (-1) (by omega)) (va_cwS 2 hts gX10_empty_J7_fill_53178 rfl rfl rfl (by decide +kernel) ⟨Nat.le_of_ble_eq_true rfl, Nat.le_of_ble_eq_true rfl⟩) ⟨fun a U g mk q => by obtain ⟨q0, q1, qP, qK, qD⟩ := q; exact ⟨q0, q1, qP, va_K.moved (u := U) (U := U.calling g mk a) (Vm.Alike.refl U.vm) qK, qD⟩, fun U hU hW => ⟨rfl, by rw [hU], by rw [hU]; exact hPc, va_K.moved hW.alike hK, hDc.weaken (fun _ _ _ _ => trivial)⟩⟩ rfl rfl hl.1 rfl (lv_room (Nat.le_of_ble_eq_true rfl)) dX10_empty_13 ⟨Nat.le_of_ble_eq_true rfl, Nat.le_of_ble_eq_true rfl⟩) hS (fun q _ h => hFc q h) hFc (fun u t H1 locs ht hvm hw hB hz1 hk1 hSn => ?_)
  obtain ⟨f_2, hP1, hD1, hf2_0⟩ := hB
  rw [ht] at hP1
  obtain ⟨hPn, hDn⟩ := va_join (wr := [(ot, .inr (10, [.ref at1, .ref at2, .ref at3, .int lt])), (at1, .inl (cI, 256, .inl f_1))]) (w1 := [(at3, .inl (cI, 512, .inl f_2))]) hP hD [1] [0, 2] rfl rfl (by decide +kernel) (by decide +kernel) hk1 hFc hP1 hD1
  clear hP hD hS hPc hDc hFc hk1 hz1 hvm ht hP1 hD1
  generalize H1 = H at hPn hSn ⊢
  have hP : va_P (dC, dI) vwCl [(ot, .inr (10, [.ref at1, .ref at2, .ref at3, .int lt])), (at1, .inl (cI, 256, .inl f_1)), (at3, .inl (cI, 512, .inl f_2))] H := hPn
  have hD : va_D A [(ot, .inr (10, [.ref at1, .ref at2, .ref at3, .int lt])), (at1, .inl (cI, 256, .inl f_1)), (at3, .inl (cI, 512, .inl f_2))] := hDn
  have hS := hSn
  clear hPn hDn hSn
  refine lv_aload_n hx hb dX10_empty_16 rfl (lv_at hl 0 rfl) ?_
  refine lv_iconst (v := 0) hx hb dX10_empty_17 (by decide) ?_
  refine va_put (D := (dC, dI)) (ci := 10) (v := .int 0) (ty := .int) (C := RX10) (T := TX10) (N := 4) hx hb hts in_X10 tyX10 tyX10_ok nmX10 hown hK hP hD hS 0 rfl rfl 3 (by decide) (hts (.fieldLink RX10 27 "TextMender$ToldCode" "length" "I") (List.mem_of_getElem? (i := 3) rfl)) (fun _ h9 => h9) rfl (by decide +kernel) rfl rfl (Nat.le_of_ble_eq_true rfl) dX10_empty_18 (fun H locs hPn hDn hSn => ?_)
  clear hP hD hS
  have hP : va_P (dC, dI) vwCl [(ot, .inr (10, [.ref at1, .ref at2, .ref at3, .int 0])), (at1, .inl (cI, 256, .inl f_1)), (at3, .inl (cI, 512, .inl f_2))] H := hPn
  have hD : va_D A [(ot, .inr (10, [.ref at1, .ref at2, .ref at3, .int 0])), (at1, .inl (cI, 256, .inl f_1)), (at3, .inl (cI, 512, .inl f_2))] := hDn
  have hS := hSn
  clear hPn hDn hSn
  have hP9 := hP.sub (ws' := [(ot, .inr (10, [.ref at1, .ref at2, .ref at3, .int 0])), (at1, .inl (cI, 256, .inl f_1)), (at3, .inl (cI, 512, .inl f_2))]) [0, 1, 2] rfl
  have hD9 := hD.sub (ws' := [(ot, .inr (10, [.ref at1, .ref at2, .ref at3, .int 0])), (at1, .inl (cI, 256, .inl f_1)), (at3, .inl (cI, 512, .inl f_2))]) [0, 1, 2] (by decide +kernel) rfl
  rw [hQQ]
  exact W.vret hx hb hr (fun t ht hW => ⟨⟨(), rfl, trivial, ⟨0, f_1, f_2, by rw [ht]; exact hP9, hD9, rfl, hf1_0, hf2_0⟩⟩, hS.F ht⟩) hS.2.2 dX10_empty_21

set_option maxHeartbeats 40000000 in
set_option maxRecDepth 100000 in
theorem m_X10_letterFor (l : Launch) (dC : Nat → ClassId) (dI : Nat → Nat → Nat) (cI cS : ClassId) (sz : Nat) (ot : Nat) (at1 : Nat) (at2 : Nat) (at3 : Nat) (lt : Int32) (ft1 : Nat → Int32) (v : Int32)  : Met l yX10_letterFor wsX10_letterFor ({ frames := 0, cells := 0, slots := 0, locals := 0 } : Room) (va_Pc [.ref ot, .int v] (fun U => U.heap.size = sz ∧ va_P (dC, dI) vwCl [(ot, .inr (10, [.ref at1, .ref at2, .ref at3, .int lt])), (at1, .inl (cI, 256, .inl ft1))] U.heap ∧ va_K (dC, dI) vwCl [(cI, .int), (cS, .short)] U ∧ va_D (fun _ => True) [(ot, .inr (10, [.ref at1, .ref at2, .ref at3, .int lt])), (at1, .inl (cI, 256, .inl ft1))])) (va_Qi (fun (r : Int32) (u : Int32) => r = u) (fun (r : Int32) t => va_P (dC, dI) vwCl [(ot, .inr (10, [.ref at1, .ref at2, .ref at3, .int lt])), (at1, .inl (cI, 256, .inl ft1))] t.heap ∧ va_D (va_A [(ot, .inr (10, [.ref at1, .ref at2, .ref at3, .int lt])), (at1, .inl (cI, 256, .inl ft1))] sz) [(ot, .inr (10, [.ref at1, .ref at2, .ref at3, .int lt])), (at1, .inl (cI, 256, .inl ft1))] ∧ (F_get 256 v r ft1)) (va_A [(ot, .inr (10, [.ref at1, .ref at2, .ref at3, .int lt])), (at1, .inl (cI, 256, .inl ft1))] sz)) 0 0 (va_A [(ot, .inr (10, [.ref at1, .ref at2, .ref at3, .int lt])), (at1, .inl (cI, 256, .inl ft1))] sz) := by
  refine Met.ofW (cc := cX10_letterFor) (maxL := 2) (ret := (some .int)) (by decide) rfl ?_
  intro p e s m args below meth c s₁ B hml hv
  obtain ⟨rfl, hsz, hP, hK, hD0⟩ := hv
  have hx := B.exec
  have hb := B.bytes
  have hr := B.returns
  have hts := atoms_spec (ws := wsX10_letterFor) B.pre
  have hown : s.vm.findClass RX10 = some m.cls := findClass_of_methodNamed B.named
  have hlocks := B.notSynchronized
  have in_X10 : ∀ w ∈ wsX100, w ∈ wsX10_letterFor := fun _ h => List.mem_cons_of_mem _ (List.mem_append_right _ (h))
  subst hsz
  have hD := hD0.self (sz := s.heap.size)
  generalize hAe : va_A [(ot, .inr (10, [.ref at1, .ref at2, .ref at3, .int lt])), (at1, .inl (cI, 256, .inl ft1))] s.heap.size = A at hD ⊢
  have hA : ∀ q : Nat, s.heap.size ≤ q → A q := fun q h => by rw [← hAe]; exact Or.inr h
  have hS : va_S A s.heap s.heap [] := va_S.rf
  have hP : va_P (dC, dI) vwCl [(ot, .inr (10, [.ref at1, .ref at2, .ref at3, .int lt])), (at1, .inl (cI, 256, .inl ft1))] s.heap := hP
  have hl := lv_entry ([.ref ot, .int v]) (n := 2) (Nat.le_of_ble_eq_true rfl)
  rw [lg_entry_eq]
  generalize (lg_sl ([.ref ot, .int v]) ++ List.replicate (2 - (lg_sl ([.ref ot, .int v])).length) Slot.unset).toArray = ls at hl ⊢
  have hl : lv_has ls 2 [(0, .ref ot), (1, .int v)] := hl
  obtain ⟨QQ, hQQ⟩ : ∃ QQ : Array Value → State → Outcome → State → Prop, QQ = va_Qi (fun (r : Int32) (u : Int32) => r = u) (fun (r : Int32) t => va_P (dC, dI) vwCl [(ot, .inr (10, [.ref at1, .ref at2, .ref at3, .int lt])), (at1, .inl (cI, 256, .inl ft1))] t.heap ∧ va_D A [(ot, .inr (10, [.ref at1, .ref at2, .ref at3, .int lt])), (at1, .inl (cI, 256, .inl ft1))] ∧ (F_get 256 v r ft1)) A := ⟨_, rfl⟩
  rw [← hQQ]
  refine lv_iload_n hx hb dX10_letterFor_0 rfl (lv_at hl 1 rfl) ?_
  refine lv_if_lt (tgt := 20) hx hb dX10_letterFor_1 (by decide) (fun c_1 => ?_) (fun c_1 => ?_)
  · have tc_1 : v.toInt < 0 := v_lt c_1
    refine lv_iconst (v := (-1)) hx hb dX10_letterFor_20 (by decide) ?_
    have hP9 := hP.sub (ws' := [(ot, .inr (10, [.ref at1, .ref at2, .ref at3, .int lt])), (at1, .inl (cI, 256, .inl ft1))]) [0, 1] rfl
    have hD9 := hD.sub (ws' := [(ot, .inr (10, [.ref at1, .ref at2, .ref at3, .int lt])), (at1, .inl (cI, 256, .inl ft1))]) [0, 1] (by decide +kernel) rfl
    rw [hQQ]
    exact W.iret (v := (-1)) hx hb hr (fun t ht hW => ⟨⟨(-1), (-1), rfl, rfl, ⟨by rw [ht]; exact hP9, hD9, by first | exact Or.inl ⟨by omega, by show v.toInt < 256; omega, by assumption⟩ | exact Or.inr ⟨Or.inl (by omega), rfl⟩ | exact Or.inr ⟨Or.inr (by show (256 : Int) ≤ v.toInt; omega), rfl⟩⟩⟩, hS.F ht⟩) hS.2.2 dX10_letterFor_21
  · have tc_1 : 0 ≤ v.toInt := v_nlt c_1
    refine lv_iload_n hx hb dX10_letterFor_4 rfl (lv_at hl 1 rfl) ?_
    refine lv_sipush (v := 256) hx hb dX10_letterFor_5 (by decide) ?_
    refine lv_icmp_ge (tgt := 20) hx hb dX10_letterFor_8 (by decide) (fun c_2 => ?_) (fun c_2 => ?_)
    · have tc_2 : 256 ≤ v.toInt := v_le c_2
      refine lv_iconst (v := (-1)) hx hb dX10_letterFor_20 (by decide) ?_
      have hP9 := hP.sub (ws' := [(ot, .inr (10, [.ref at1, .ref at2, .ref at3, .int lt])), (at1, .inl (cI, 256, .inl ft1))]) [0, 1] rfl
      have hD9 := hD.sub (ws' := [(ot, .inr (10, [.ref at1, .ref at2, .ref at3, .int lt])), (at1, .inl (cI, 256, .inl ft1))]) [0, 1] (by decide +kernel) rfl
      rw [hQQ]
      exact W.iret (v := (-1)) hx hb hr (fun t ht hW => ⟨⟨(-1), (-1), rfl, rfl, ⟨by rw [ht]; exact hP9, hD9, by first | exact Or.inl ⟨by omega, by show v.toInt < 256; omega, by assumption⟩ | exact Or.inr ⟨Or.inl (by omega), rfl⟩ | exact Or.inr ⟨Or.inr (by show (256 : Int) ≤ v.toInt; omega), rfl⟩⟩⟩, hS.F ht⟩) hS.2.2 dX10_letterFor_21
    · have tc_2 : v.toInt < 256 := v_nle c_2
      refine lv_aload_n hx hb dX10_letterFor_11 rfl (lv_at hl 0 rfl) ?_
      refine va_get (D := (dC, dI)) (ci := 10) (v := .ref at1) (C := RX10) (T := TX10) (N := 4) hx hb hts in_X10 hown hK hP 0 rfl rfl 0 (by decide) (hts (.fieldLink RX10 9 "TextMender$ToldCode" "letterOf" "[I") (List.mem_of_getElem? (i := 1) rfl)) (fun _ h9 => h9) rfl dX10_letterFor_12 ?_
      refine lv_iload_n hx hb dX10_letterFor_15 rfl (lv_at hl 1 rfl) ?_
      refine va_iald hx hb hK hP 1 0 rfl rfl (v_in (by omega)) dX10_letterFor_16 ?_
      refine lv_topi (fun x_3 ex_3 => ?_)
      refine lv_goto (tgt := 21) hx hb dX10_letterFor_17 (by decide) ?_
      have hP9 := hP.sub (ws' := [(ot, .inr (10, [.ref at1, .ref at2, .ref at3, .int lt])), (at1, .inl (cI, 256, .inl ft1))]) [0, 1] rfl
      have hD9 := hD.sub (ws' := [(ot, .inr (10, [.ref at1, .ref at2, .ref at3, .int lt])), (at1, .inl (cI, 256, .inl ft1))]) [0, 1] (by decide +kernel) rfl
      rw [hQQ]
      exact W.iret (v := x_3) hx hb hr (fun t ht hW => ⟨⟨x_3, x_3, rfl, rfl, ⟨by rw [ht]; exact hP9, hD9, by first | exact Or.inl ⟨by omega, by show v.toInt < 256; omega, by assumption⟩ | exact Or.inr ⟨Or.inl (by omega), rfl⟩ | exact Or.inr ⟨Or.inr (by show (256 : Int) ≤ v.toInt; omega), rfl⟩⟩⟩, hS.F ht⟩) hS.2.2 dX10_letterFor_21

set_option maxHeartbeats 40000000 in
set_option maxRecDepth 100000 in
theorem m_X10_placeFor (l : Launch) (dC : Nat → ClassId) (dI : Nat → Nat → Nat) (cI cS : ClassId) (sz : Nat) (ot : Nat) (at1 : Nat) (at2 : Nat) (at3 : Nat) (lt : Int32) (ft2 : Nat → Int32) (ft3 : Nat → Int32) (le : Int32)  : Met l yX10_placeFor wsX10_placeFor ({ frames := 0, cells := 0, slots := 0, locals := 0 } : Room) (va_Pc [.ref ot, .int le] (fun U => U.heap.size = sz ∧ va_P (dC, dI) vwCl [(ot, .inr (10, [.ref at1, .ref at2, .ref at3, .int lt])), (at2, .inl (cI, 512, .inl ft2)), (at3, .inl (cI, 512, .inl ft3))] U.heap ∧ va_K (dC, dI) vwCl [(cI, .int), (cS, .short)] U ∧ va_D (fun _ => True) [(ot, .inr (10, [.ref at1, .ref at2, .ref at3, .int lt])), (at2, .inl (cI, 512, .inl ft2)), (at3, .inl (cI, 512, .inl ft3))])) (va_Qi (fun (r : Int32) (u : Int32) => r = u) (fun (r : Int32) t => va_P (dC, dI) vwCl [(ot, .inr (10, [.ref at1, .ref at2, .ref at3, .int lt])), (at2, .inl (cI, 512, .inl ft2)), (at3, .inl (cI, 512, .inl ft3))] t.heap ∧ va_D (va_A [(ot, .inr (10, [.ref at1, .ref at2, .ref at3, .int lt])), (at2, .inl (cI, 512, .inl ft2)), (at3, .inl (cI, 512, .inl ft3))] sz) [(ot, .inr (10, [.ref at1, .ref at2, .ref at3, .int lt])), (at2, .inl (cI, 512, .inl ft2)), (at3, .inl (cI, 512, .inl ft3))] ∧ (-1 ≤ r.toInt ∧ r.toInt ≤ 511)) (va_A [(ot, .inr (10, [.ref at1, .ref at2, .ref at3, .int lt])), (at2, .inl (cI, 512, .inl ft2)), (at3, .inl (cI, 512, .inl ft3))] sz)) 0 0 (va_A [(ot, .inr (10, [.ref at1, .ref at2, .ref at3, .int lt])), (at2, .inl (cI, 512, .inl ft2)), (at3, .inl (cI, 512, .inl ft3))] sz) := by
  refine Met.ofW (cc := cX10_placeFor) (maxL := 5) (ret := (some .int)) (by decide) rfl ?_
  intro p e s m args below meth c s₁ B hml hv
  obtain ⟨rfl, hsz, hP, hK, hD0⟩ := hv
  have hx := B.exec
  have hb := B.bytes
  have hr := B.returns
  have hts := atoms_spec (ws := wsX10_placeFor) B.pre
  have hown : s.vm.findClass RX10 = some m.cls := findClass_of_methodNamed B.named
  have hlocks := B.notSynchronized
  have in_X10 : ∀ w ∈ wsX100, w ∈ wsX10_placeFor := fun _ h => List.mem_cons_of_mem _ (List.mem_append_right _ (h))
  subst hsz
  have hD := hD0.self (sz := s.heap.size)
  generalize hAe : va_A [(ot, .inr (10, [.ref at1, .ref at2, .ref at3, .int lt])), (at2, .inl (cI, 512, .inl ft2)), (at3, .inl (cI, 512, .inl ft3))] s.heap.size = A at hD ⊢
  have hA : ∀ q : Nat, s.heap.size ≤ q → A q := fun q h => by rw [← hAe]; exact Or.inr h
  have hS : va_S A s.heap s.heap [] := va_S.rf
  have hP : va_P (dC, dI) vwCl [(ot, .inr (10, [.ref at1, .ref at2, .ref at3, .int lt])), (at2, .inl (cI, 512, .inl ft2)), (at3, .inl (cI, 512, .inl ft3))] s.heap := hP
  have hl := lv_entry ([.ref ot, .int le]) (n := 5) (Nat.le_of_ble_eq_true rfl)
  rw [lg_entry_eq]
  generalize (lg_sl ([.ref ot, .int le]) ++ List.replicate (5 - (lg_sl ([.ref ot, .int le])).length) Slot.unset).toArray = ls at hl ⊢
  have hl : lv_has ls 5 [(0, .ref ot), (1, .int le)] := hl
  obtain ⟨QQ, hQQ⟩ : ∃ QQ : Array Value → State → Outcome → State → Prop, QQ = va_Qi (fun (r : Int32) (u : Int32) => r = u) (fun (r : Int32) t => va_P (dC, dI) vwCl [(ot, .inr (10, [.ref at1, .ref at2, .ref at3, .int lt])), (at2, .inl (cI, 512, .inl ft2)), (at3, .inl (cI, 512, .inl ft3))] t.heap ∧ va_D A [(ot, .inr (10, [.ref at1, .ref at2, .ref at3, .int lt])), (at2, .inl (cI, 512, .inl ft2)), (at3, .inl (cI, 512, .inl ft3))] ∧ (-1 ≤ r.toInt ∧ r.toInt ≤ 511)) A := ⟨_, rfl⟩
  rw [← hQQ]
  refine lv_iload_n hx hb dX10_placeFor_0 rfl (lv_at hl 1 rfl) ?_
  refine lv_ldc hx hb hown (hts (.constant RX10 45 (-1640531535)) (List.mem_of_getElem? (i := 1) rfl)) dX10_placeFor_1 ?_
  refine lv_imul hx hb dX10_placeFor_3 ?_
  refine lv_topi (fun x_1 ex_1 => ?_)
  have rv1_0 := v_rng le
  refine lv_bipush (v := 23) hx hb dX10_placeFor_4 (by decide) ?_
  obtain ⟨x_2, ex_2⟩ : ∃ v : Int32, v = ((x_1 : Int32).toUInt32 >>> ((23 : Int32).toUInt32 &&& Int32.toUInt32 31)).toInt32 := ⟨_, rfl⟩
  refine lv_iushr (v := x_2) hx hb dX10_placeFor_6 ex_2.symm ?_
  have tx_2 : 0 ≤ x_2.toInt ∧ x_2.toInt < 512 := v_ushr 23 ex_2 (by decide) (by decide) (by decide)
  refine lv_istore_n (lv' := [(2, .int x_2), (0, .ref ot), (1, .int le)]) hx hb dX10_placeFor_7 rfl hl (by decide) rfl (fun ls hl => ?_)
  refine lv_iconst (v := 0) hx hb dX10_placeFor_8 (by decide) ?_
  refine lv_istore_n (lv' := [(3, .int 0), (2, .int x_2), (0, .ref ot), (1, .int le)]) hx hb dX10_placeFor_9 rfl hl (by decide) rfl (fun ls hl => ?_)
  have LOOP_10 : ∀ (k_10 : Nat) (k : Int32) (H : Heap) (locs : List Loc) (ls : Array Slot), MSd (512 - k.toInt : Int) k_10 → (0 ≤ k.toInt ∧ k.toInt ≤ 512) → va_P (dC, dI) vwCl [(ot, .inr (10, [.ref at1, .ref at2, .ref at3, .int lt])), (at2, .inl (cI, 512, .inl ft2)), (at3, .inl (cI, 512, .inl ft3))] H → va_D A [(ot, .inr (10, [.ref at1, .ref at2, .ref at3, .int lt])), (at2, .inl (cI, 512, .inl ft2)), (at3, .inl (cI, 512, .inl ft3))] → va_S A s.heap H locs → lv_has ls 5 [(3, .int k), (2, .int x_2), (0, .ref ot), (1, .int le)] → W p l e (headSpec wsX10_placeFor ({ frames := 0, cells := 0, slots := 0, locals := 0 } : Room)).room s m ([.ref ot, .int le] : List Value).toArray below meth c H locs 0 0 (MQ below QQ ([.ref ot, .int le] : List Value).toArray s 0 0 A) (F0 m 10 ls []) := by
    clear hP hD hS hl
    intro k_10
    induction k_10 with
    | zero =>
      intro k H locs ls hm_10 g_k hP hD hS hl
      exact ms_0 hm_10
    | succ k_10 ih_10 =>
      intro k H locs ls hm_10 g_k hP hD hS hl
      refine lv_iload_n hx hb dX10_placeFor_10 rfl (lv_at hl 0 rfl) ?_
      refine lv_sipush (v := 512) hx hb dX10_placeFor_11 (by decide) ?_
      refine lv_icmp_ge (tgt := 57) hx hb dX10_placeFor_14 (by decide) (fun c_3 => ?_) (fun c_3 => ?_)
      · have tc_3 : 512 ≤ k.toInt := v_le c_3
        refine lv_iconst (v := (-1)) hx hb dX10_placeFor_57 (by decide) ?_
        have hP9 := hP.sub (ws' := [(ot, .inr (10, [.ref at1, .ref at2, .ref at3, .int lt])), (at2, .inl (cI, 512, .inl ft2)), (at3, .inl (cI, 512, .inl ft3))]) [0, 1, 2] rfl
        have hD9 := hD.sub (ws' := [(ot, .inr (10, [.ref at1, .ref at2, .ref at3, .int lt])), (at2, .inl (cI, 512, .inl ft2)), (at3, .inl (cI, 512, .inl ft3))]) [0, 1, 2] (by decide +kernel) rfl
        rw [hQQ]
        exact W.iret (v := (-1)) hx hb hr (fun t ht hW => ⟨⟨(-1), (-1), rfl, rfl, ⟨by rw [ht]; exact hP9, hD9, by decide⟩⟩, hS.F ht⟩) hS.2.2 dX10_placeFor_58
      · have tc_3 : k.toInt < 512 := v_nle c_3
        refine lv_iload_n hx hb dX10_placeFor_17 rfl (lv_at hl 1 rfl) ?_
        refine lv_iload_n hx hb dX10_placeFor_18 rfl (lv_at hl 0 rfl) ?_
        refine lv_iadd hx hb dX10_placeFor_19 ?_
        refine lv_topi (fun x_4 ex_4 => ?_)
        have tx_4 : x_4.toInt = x_2.toInt + k.toInt := v_add ex_4 (by show -2147483648 ≤ x_2.toInt + k.toInt; omega) (by show x_2.toInt + k.toInt < 2147483648; omega)
        refine lv_sipush (v := 511) hx hb dX10_placeFor_20 (by decide) ?_
        refine lv_iand hx hb dX10_placeFor_23 ?_
        refine lv_topi (fun x_5 ex_5 => ?_)
        have tx_5 : 0 ≤ x_5.toInt ∧ x_5.toInt < 512 := v_and 9 ex_5 (by decide) (by decide)
        refine lv_istore (lv' := [(4, .int x_5), (3, .int k), (2, .int x_2), (0, .ref ot), (1, .int le)]) hx hb dX10_placeFor_24 hl (by decide) rfl (fun ls hl => ?_)
        refine lv_aload_n hx hb dX10_placeFor_26 rfl (lv_at hl 3 rfl) ?_
        refine va_get (D := (dC, dI)) (ci := 10) (v := .ref at3) (C := RX10) (T := TX10) (N := 4) hx hb hts in_X10 hown hK hP 0 rfl rfl 2 (by decide) (hts (.fieldLink RX10 18 "TextMender$ToldCode" "placeByte" "[I") (List.mem_of_getElem? (i := 2) rfl)) (fun _ h9 => h9) rfl dX10_placeFor_27 ?_
        refine lv_iload hx hb dX10_placeFor_30 (lv_at hl 0 rfl) ?_
        refine va_iald hx hb hK hP 2 0 rfl rfl (v_in (by omega)) dX10_placeFor_32 ?_
        refine lv_topi (fun x_6 ex_6 => ?_)
        refine lv_iconst (v := (-1)) hx hb dX10_placeFor_33 (by decide) ?_
        refine lv_icmp_eq (tgt := 48) hx hb dX10_placeFor_34 (by decide) (fun c_7 => ?_) (fun c_7 => ?_)
        · have tc_7 : x_6.toInt = (-1) := v_eq c_7
          refine lv_iload hx hb dX10_placeFor_48 (lv_at hl 0 rfl) ?_
          have hP9 := hP.sub (ws' := [(ot, .inr (10, [.ref at1, .ref at2, .ref at3, .int lt])), (at2, .inl (cI, 512, .inl ft2)), (at3, .inl (cI, 512, .inl ft3))]) [0, 1, 2] rfl
          have hD9 := hD.sub (ws' := [(ot, .inr (10, [.ref at1, .ref at2, .ref at3, .int lt])), (at2, .inl (cI, 512, .inl ft2)), (at3, .inl (cI, 512, .inl ft3))]) [0, 1, 2] (by decide +kernel) rfl
          rw [hQQ]
          exact W.iret (v := x_5) hx hb hr (fun t ht hW => ⟨⟨x_5, x_5, rfl, rfl, ⟨by rw [ht]; exact hP9, hD9, by omega⟩⟩, hS.F ht⟩) hS.2.2 dX10_placeFor_50
        · have tc_7 : ¬ x_6.toInt = (-1) := v_ne c_7
          refine lv_aload_n hx hb dX10_placeFor_37 rfl (lv_at hl 3 rfl) ?_
          refine va_get (D := (dC, dI)) (ci := 10) (v := .ref at2) (C := RX10) (T := TX10) (N := 4) hx hb hts in_X10 hown hK hP 0 rfl rfl 1 (by decide) (hts (.fieldLink RX10 15 "TextMender$ToldCode" "placeLetter" "[I") (List.mem_of_getElem? (i := 3) rfl)) (fun _ h9 => h9) rfl dX10_placeFor_38 ?_
          refine lv_iload hx hb dX10_placeFor_41 (lv_at hl 0 rfl) ?_
          refine va_iald hx hb hK hP 1 0 rfl rfl (v_in (by omega)) dX10_placeFor_43 ?_
          refine lv_topi (fun x_8 ex_8 => ?_)
          refine lv_iload_n hx hb dX10_placeFor_44 rfl (lv_at hl 4 rfl) ?_
          refine lv_icmp_ne (tgt := 51) hx hb dX10_placeFor_45 (by decide) (fun c_9 => ?_) (fun c_9 => ?_)
          · have tc_9 : ¬ x_8.toInt = le.toInt := v_ne c_9
            have rw9_0 := v_rng x_8
            obtain ⟨x_10, ex_10⟩ : ∃ y : Int32, y = k + 1 := ⟨_, rfl⟩
            have tx_10 : x_10.toInt = k.toInt + 1 := v_add ex_10 (by show -2147483648 ≤ k.toInt + 1; omega) (by show k.toInt + 1 < 2147483648; omega)
            refine lv_iinc (v := x_10) (lv' := [(3, .int x_10), (4, .int x_5), (2, .int x_2), (0, .ref ot), (1, .int le)]) hx hb dX10_placeFor_51 hl (k := 1) rfl (by rw [ex_10]; rfl) (by decide) rfl (fun ls hl => ?_)
            refine lv_goto (tgt := 10) hx hb dX10_placeFor_54 (by decide) ?_
            exact ih_10 x_10 _ _ _ (ms_lt hm_10 (by show ((512 - x_10.toInt : Int)) < 512 - k.toInt; omega) (by show (0 : Int) < 512 - k.toInt; omega)) (by show 0 ≤ x_10.toInt ∧ x_10.toInt ≤ 512; omega) hP hD hS (lv_sub hl [0, 2, 3, 4] rfl)
          · have tc_9 : x_8.toInt = le.toInt := v_eq c_9
            have rw9_0 := v_rng x_8
            refine lv_iload hx hb dX10_placeFor_48 (lv_at hl 0 rfl) ?_
            have hP9 := hP.sub (ws' := [(ot, .inr (10, [.ref at1, .ref at2, .ref at3, .int lt])), (at2, .inl (cI, 512, .inl ft2)), (at3, .inl (cI, 512, .inl ft3))]) [0, 1, 2] rfl
            have hD9 := hD.sub (ws' := [(ot, .inr (10, [.ref at1, .ref at2, .ref at3, .int lt])), (at2, .inl (cI, 512, .inl ft2)), (at3, .inl (cI, 512, .inl ft3))]) [0, 1, 2] (by decide +kernel) rfl
            rw [hQQ]
            exact W.iret (v := x_5) hx hb hr (fun t ht hW => ⟨⟨x_5, x_5, rfl, rfl, ⟨by rw [ht]; exact hP9, hD9, by omega⟩⟩, hS.F ht⟩) hS.2.2 dX10_placeFor_50
  exact LOOP_10 _ 0 _ _ _ (ms_s _) (by decide) hP hD hS (lv_sub hl [0, 1, 2, 3] rfl)

set_option maxHeartbeats 40000000 in
set_option maxRecDepth 100000 in
theorem m_X10_byteFor (l : Launch) (dC : Nat → ClassId) (dI : Nat → Nat → Nat) (cI cS : ClassId) (sz : Nat) (ot : Nat) (at1 : Nat) (at2 : Nat) (at3 : Nat) (lt : Int32) (ft2 : Nat → Int32) (ft3 : Nat → Int32) (le : Int32)  : Met l yX10_byteFor wsX10_byteFor ({ frames := 1, cells := 0, slots := 0, locals := 24 } : Room) (va_Pc [.ref ot, .int le] (fun U => U.heap.size = sz ∧ va_P (dC, dI) vwCl [(ot, .inr (10, [.ref at1, .ref at2, .ref at3, .int lt])), (at2, .inl (cI, 512, .inl ft2)), (at3, .inl (cI, 512, .inl ft3))] U.heap ∧ va_K (dC, dI) vwCl [(cI, .int), (cS, .short)] U ∧ va_D (fun _ => True) [(ot, .inr (10, [.ref at1, .ref at2, .ref at3, .int lt])), (at2, .inl (cI, 512, .inl ft2)), (at3, .inl (cI, 512, .inl ft3))])) (va_Qi (fun (r : Int32) (u : Int32) => r = u) (fun (r : Int32) t => va_P (dC, dI) vwCl [(ot, .inr (10, [.ref at1, .ref at2, .ref at3, .int lt])), (at2, .inl (cI, 512, .inl ft2)), (at3, .inl (cI, 512, .inl ft3))] t.heap ∧ va_D (va_A [(ot, .inr (10, [.ref at1, .ref at2, .ref at3, .int lt])), (at2, .inl (cI, 512, .inl ft2)), (at3, .inl (cI, 512, .inl ft3))] sz) [(ot, .inr (10, [.ref at1, .ref at2, .ref at3, .int lt])), (at2, .inl (cI, 512, .inl ft2)), (at3, .inl (cI, 512, .inl ft3))]) (va_A [(ot, .inr (10, [.ref at1, .ref at2, .ref at3, .int lt])), (at2, .inl (cI, 512, .inl ft2)), (at3, .inl (cI, 512, .inl ft3))] sz)) 0 0 (va_A [(ot, .inr (10, [.ref at1, .ref at2, .ref at3, .int lt])), (at2, .inl (cI, 512, .inl ft2)), (at3, .inl (cI, 512, .inl ft3))] sz) := by
  refine Met.ofW (cc := cX10_byteFor) (maxL := 3) (ret := (some .int)) (by decide) rfl ?_
  intro p e s m args below meth c s₁ B hml hv
  obtain ⟨rfl, hsz, hP, hK, hD0⟩ := hv
  have hx := B.exec
  have hb := B.bytes
  have hr := B.returns
  have hts := atoms_spec (ws := wsX10_byteFor) B.pre
  have hown : s.vm.findClass RX10 = some m.cls := findClass_of_methodNamed B.named
  have hlocks := B.notSynchronized
  have in_X10 : ∀ w ∈ wsX100, w ∈ wsX10_byteFor := fun _ h => List.mem_cons_of_mem _ (List.mem_append_right _ (h))
  subst hsz
  have hD := hD0.self (sz := s.heap.size)
  generalize hAe : va_A [(ot, .inr (10, [.ref at1, .ref at2, .ref at3, .int lt])), (at2, .inl (cI, 512, .inl ft2)), (at3, .inl (cI, 512, .inl ft3))] s.heap.size = A at hD ⊢
  have hA : ∀ q : Nat, s.heap.size ≤ q → A q := fun q h => by rw [← hAe]; exact Or.inr h
  have hS : va_S A s.heap s.heap [] := va_S.rf
  have hP : va_P (dC, dI) vwCl [(ot, .inr (10, [.ref at1, .ref at2, .ref at3, .int lt])), (at2, .inl (cI, 512, .inl ft2)), (at3, .inl (cI, 512, .inl ft3))] s.heap := hP
  have hl := lv_entry ([.ref ot, .int le]) (n := 3) (Nat.le_of_ble_eq_true rfl)
  rw [lg_entry_eq]
  generalize (lg_sl ([.ref ot, .int le]) ++ List.replicate (3 - (lg_sl ([.ref ot, .int le])).length) Slot.unset).toArray = ls at hl ⊢
  have hl : lv_has ls 3 [(0, .ref ot), (1, .int le)] := hl
  obtain ⟨QQ, hQQ⟩ : ∃ QQ : Array Value → State → Outcome → State → Prop, QQ = va_Qi (fun (r : Int32) (u : Int32) => r = u) (fun (r : Int32) t => va_P (dC, dI) vwCl [(ot, .inr (10, [.ref at1, .ref at2, .ref at3, .int lt])), (at2, .inl (cI, 512, .inl ft2)), (at3, .inl (cI, 512, .inl ft3))] t.heap ∧ va_D A [(ot, .inr (10, [.ref at1, .ref at2, .ref at3, .int lt])), (at2, .inl (cI, 512, .inl ft2)), (at3, .inl (cI, 512, .inl ft3))]) A := ⟨_, rfl⟩
  rw [← hQQ]
  refine lv_aload_n hx hb dX10_byteFor_0 rfl (lv_at hl 0 rfl) ?_
  refine lv_iload_n hx hb dX10_byteFor_1 rfl (lv_at hl 1 rfl) ?_
  have hPc := hP.sub (ws' := [(ot, .inr (10, [.ref at1, .ref at2, .ref at3, .int lt])), (at2, .inl (cI, 512, .inl ft2)), (at3, .inl (cI, 512, .inl ft3))]) [0, 1, 2] rfl
  have hDc := hD.sub (ws' := [(ot, .inr (10, [.ref at1, .ref at2, .ref at3, .int lt])), (at2, .inl (cI, 512, .inl ft2)), (at3, .inl (cI, 512, .inl ft3))]) [0, 1, 2] (by decide +kernel) rfl
  have hFc := va_free (wc := [(ot, .inr (10, [.ref at1, .ref at2, .ref at3, .int lt])), (at2, .inl (cI, 512, .inl ft2)), (at3, .inl (cI, 512, .inl ft3))]) hD hS hA [0, 1, 2] rfl
  refine va_calli (va_runV (As := [.int le]) (rest := []) ⟨hx, hb, hml, hown, hts⟩ (m_X10_placeFor l dC dI cI cS s.heap.size ot at1 at2 at3 lt ft2 ft3 le ) (cwV 1 hts gX10_byteFor_X10_placeFor rfl rfl rfl (by decide +kernel) ⟨Nat.le_of_ble_eq_true rfl, Nat.le_of_ble_eq_true rfl⟩) ⟨fun a U g mk q => by obtain ⟨q0, q1, qP, qK, qD⟩ := q; exact ⟨q0, q1, qP, va_K.moved (u := U) (U := U.calling g mk a) (Vm.Alike.refl U.vm) qK, qD⟩, va_recv hK hPc (ci := 10) (q0 := 0) rfl rfl, fun U hU hW => ⟨rfl, by rw [hU], by rw [hU]; exact hPc, va_K.moved hW.alike hK, hDc.weaken (fun _ _ _ _ => trivial)⟩⟩ rfl rfl hl.1 rfl (lv_room (Nat.le_of_ble_eq_true rfl)) dX10_byteFor_2 ⟨Nat.le_of_ble_eq_true rfl, Nat.le_of_ble_eq_true rfl⟩) hS (fun q _ h => hFc q h) hFc (fun r_1 u t H1 locs ht hvm hw hB hz1 hk1 hSn => ?_)
  subst hw
  obtain ⟨hP1, hD1, hf1_0⟩ := hB
  rw [ht] at hP1
  obtain ⟨hPn, hDn⟩ := va_join (wr := []) (w1 := [(ot, .inr (10, [.ref at1, .ref at2, .ref at3, .int lt])), (at2, .inl (cI, 512, .inl ft2)), (at3, .inl (cI, 512, .inl ft3))]) hP hD [0, 1, 2] [] rfl rfl (by decide +kernel) (by decide +kernel) hk1 hFc hP1 hD1
  clear hP hD hS hPc hDc hFc hk1 hz1 hvm ht hP1 hD1
  generalize H1 = H at hPn hSn ⊢
  have hP : va_P (dC, dI) vwCl [(ot, .inr (10, [.ref at1, .ref at2, .ref at3, .int lt])), (at2, .inl (cI, 512, .inl ft2)), (at3, .inl (cI, 512, .inl ft3))] H := hPn
  have hD : va_D A [(ot, .inr (10, [.ref at1, .ref at2, .ref at3, .int lt])), (at2, .inl (cI, 512, .inl ft2)), (at3, .inl (cI, 512, .inl ft3))] := hDn
  have hS := hSn
  clear hPn hDn hSn
  refine lv_istore_n (lv' := [(2, .int r_1), (0, .ref ot), (1, .int le)]) hx hb dX10_byteFor_5 rfl hl (by decide) rfl (fun ls hl => ?_)
  refine lv_iload_n hx hb dX10_byteFor_6 rfl (lv_at hl 0 rfl) ?_
  refine lv_iconst (v := (-1)) hx hb dX10_byteFor_7 (by decide) ?_
  refine lv_icmp_ne (tgt := 15) hx hb dX10_byteFor_8 (by decide) (fun c_2 => ?_) (fun c_2 => ?_)
  · have tc_2 : ¬ r_1.toInt = (-1) := v_ne c_2
    refine lv_aload_n hx hb dX10_byteFor_15 rfl (lv_at hl 1 rfl) ?_
    refine va_get (D := (dC, dI)) (ci := 10) (v := .ref at3) (C := RX10) (T := TX10) (N := 4) hx hb hts in_X10 hown hK hP 0 rfl rfl 2 (by decide) (hts (.fieldLink RX10 18 "TextMender$ToldCode" "placeByte" "[I") (List.mem_of_getElem? (i := 1) rfl)) (fun _ h9 => h9) rfl dX10_byteFor_16 ?_
    refine lv_iload_n hx hb dX10_byteFor_19 rfl (lv_at hl 0 rfl) ?_
    refine va_iald hx hb hK hP 2 0 rfl rfl (v_in (by omega)) dX10_byteFor_20 ?_
    refine lv_topi (fun x_3 ex_3 => ?_)
    have hP9 := hP.sub (ws' := [(ot, .inr (10, [.ref at1, .ref at2, .ref at3, .int lt])), (at2, .inl (cI, 512, .inl ft2)), (at3, .inl (cI, 512, .inl ft3))]) [0, 1, 2] rfl
    have hD9 := hD.sub (ws' := [(ot, .inr (10, [.ref at1, .ref at2, .ref at3, .int lt])), (at2, .inl (cI, 512, .inl ft2)), (at3, .inl (cI, 512, .inl ft3))]) [0, 1, 2] (by decide +kernel) rfl
    rw [hQQ]
    exact W.iret (v := x_3) hx hb hr (fun t ht hW => ⟨⟨x_3, x_3, rfl, rfl, ⟨by rw [ht]; exact hP9, hD9⟩⟩, hS.F ht⟩) hS.2.2 dX10_byteFor_21
  · have tc_2 : r_1.toInt = (-1) := v_eq c_2
    refine lv_iconst (v := (-1)) hx hb dX10_byteFor_11 (by decide) ?_
    refine lv_goto (tgt := 21) hx hb dX10_byteFor_12 (by decide) ?_
    have hP9 := hP.sub (ws' := [(ot, .inr (10, [.ref at1, .ref at2, .ref at3, .int lt])), (at2, .inl (cI, 512, .inl ft2)), (at3, .inl (cI, 512, .inl ft3))]) [0, 1, 2] rfl
    have hD9 := hD.sub (ws' := [(ot, .inr (10, [.ref at1, .ref at2, .ref at3, .int lt])), (at2, .inl (cI, 512, .inl ft2)), (at3, .inl (cI, 512, .inl ft3))]) [0, 1, 2] (by decide +kernel) rfl
    rw [hQQ]
    exact W.iret (v := (-1)) hx hb hr (fun t ht hW => ⟨⟨(-1), (-1), rfl, rfl, ⟨by rw [ht]; exact hP9, hD9⟩⟩, hS.F ht⟩) hS.2.2 dX10_byteFor_21

set_option maxHeartbeats 40000000 in
set_option maxRecDepth 100000 in
theorem m_X11_isLetter (l : Launch) (dC : Nat → ClassId) (dI : Nat → Nat → Nat) (cI cS : ClassId) (sz : Nat) (x : Int32)  : Met l yX11_isLetter wsX11_isLetter ({ frames := 0, cells := 0, slots := 0, locals := 0 } : Room) (va_Pc [.int x] (fun U => U.heap.size = sz ∧ va_P (dC, dI) vwCl [] U.heap ∧ va_K (dC, dI) vwCl [(cI, .int), (cS, .short)] U ∧ va_D (fun _ => True) [])) (va_Qi (fun (r : Int32) (u : Int32) => r = u) (fun (r : Int32) t => va_P (dC, dI) vwCl [] t.heap ∧ va_D (va_A [] sz) [] ∧ (0 ≤ r.toInt ∧ r.toInt ≤ 1) ∧ ((r.toInt = 1 ∧ 0 ≤ x.toInt ∧ x.toInt ≤ 65535 ∧ (x.toInt < 55296 ∨ 57343 < x.toInt)) ∨ (r.toInt = 0 ∧ (x.toInt < 0 ∨ 65535 < x.toInt ∨ (55296 ≤ x.toInt ∧ x.toInt ≤ 57343))))) (va_A [] sz)) 0 0 (va_A [] sz) := by
  refine Met.ofW (cc := cX11_isLetter) (maxL := 1) (ret := (some .boolean)) (by decide) rfl ?_
  intro p e s m args below meth c s₁ B hml hv
  obtain ⟨rfl, hsz, hP, hK, hD0⟩ := hv
  have hx := B.exec
  have hb := B.bytes
  have hr := B.returns
  have hts := atoms_spec (ws := wsX11_isLetter) B.pre
  have hown : s.vm.findClass RX11 = some m.cls := findClass_of_methodNamed B.named
  have hlocks := B.notSynchronized
  subst hsz
  have hD := hD0.self (sz := s.heap.size)
  generalize hAe : va_A [] s.heap.size = A at hD ⊢
  have hA : ∀ q : Nat, s.heap.size ≤ q → A q := fun q h => by rw [← hAe]; exact Or.inr h
  have hS : va_S A s.heap s.heap [] := va_S.rf
  have hP : va_P (dC, dI) vwCl [] s.heap := hP
  have hl := lv_entry ([.int x]) (n := 1) (Nat.le_of_ble_eq_true rfl)
  rw [lg_entry_eq]
  generalize (lg_sl ([.int x]) ++ List.replicate (1 - (lg_sl ([.int x])).length) Slot.unset).toArray = ls at hl ⊢
  have hl : lv_has ls 1 [(0, .int x)] := hl
  obtain ⟨QQ, hQQ⟩ : ∃ QQ : Array Value → State → Outcome → State → Prop, QQ = va_Qi (fun (r : Int32) (u : Int32) => r = u) (fun (r : Int32) t => va_P (dC, dI) vwCl [] t.heap ∧ va_D A [] ∧ (0 ≤ r.toInt ∧ r.toInt ≤ 1) ∧ ((r.toInt = 1 ∧ 0 ≤ x.toInt ∧ x.toInt ≤ 65535 ∧ (x.toInt < 55296 ∨ 57343 < x.toInt)) ∨ (r.toInt = 0 ∧ (x.toInt < 0 ∨ 65535 < x.toInt ∨ (55296 ≤ x.toInt ∧ x.toInt ≤ 57343))))) A := ⟨_, rfl⟩
  rw [← hQQ]
  refine lv_iload_n hx hb dX11_isLetter_0 rfl (lv_at hl 0 rfl) ?_
  refine lv_if_lt (tgt := 29) hx hb dX11_isLetter_1 (by decide) (fun c_1 => ?_) (fun c_1 => ?_)
  · have tc_1 : x.toInt < 0 := v_lt c_1
    refine lv_iconst (v := 0) hx hb dX11_isLetter_29 (by decide) ?_
    have hP9 := hP.sub (ws' := []) [] rfl
    have hD9 := hD.sub (ws' := []) [] (by decide +kernel) rfl
    rw [hQQ]
    exact W.zret (v := 0) (ty := .boolean) hx hb hr (rfl) (fun t ht hW => ⟨⟨0, 0, rfl, rfl, ⟨by rw [ht]; exact hP9, hD9, by decide, by show (0 = 1 ∧ 0 ≤ x.toInt ∧ x.toInt ≤ 65535 ∧ (x.toInt < 55296 ∨ 57343 < x.toInt)) ∨ (0 = 0 ∧ (x.toInt < 0 ∨ 65535 < x.toInt ∨ (55296 ≤ x.toInt ∧ x.toInt ≤ 57343))); omega⟩⟩, hS.F ht⟩) hS.2.2 dX11_isLetter_30
  · have tc_1 : 0 ≤ x.toInt := v_nlt c_1
    refine lv_iload_n hx hb dX11_isLetter_4 rfl (lv_at hl 0 rfl) ?_
    refine lv_ldcw hx hb hown (hts (.constant RX11 262 (65535)) (List.mem_of_getElem? (i := 1) rfl)) dX11_isLetter_5 ?_
    refine lv_icmp_gt (tgt := 29) hx hb dX11_isLetter_8 (by decide) (fun c_2 => ?_) (fun c_2 => ?_)
    · have tc_2 : 65535 < x.toInt := v_lt c_2
      refine lv_iconst (v := 0) hx hb dX11_isLetter_29 (by decide) ?_
      have hP9 := hP.sub (ws' := []) [] rfl
      have hD9 := hD.sub (ws' := []) [] (by decide +kernel) rfl
      rw [hQQ]
      exact W.zret (v := 0) (ty := .boolean) hx hb hr (rfl) (fun t ht hW => ⟨⟨0, 0, rfl, rfl, ⟨by rw [ht]; exact hP9, hD9, by decide, by show (0 = 1 ∧ 0 ≤ x.toInt ∧ x.toInt ≤ 65535 ∧ (x.toInt < 55296 ∨ 57343 < x.toInt)) ∨ (0 = 0 ∧ (x.toInt < 0 ∨ 65535 < x.toInt ∨ (55296 ≤ x.toInt ∧ x.toInt ≤ 57343))); omega⟩⟩, hS.F ht⟩) hS.2.2 dX11_isLetter_30
    · have tc_2 : x.toInt ≤ 65535 := v_nlt c_2
      refine lv_iload_n hx hb dX11_isLetter_11 rfl (lv_at hl 0 rfl) ?_
      refine lv_ldcw hx hb hown (hts (.constant RX11 263 (55296)) (List.mem_of_getElem? (i := 2) rfl)) dX11_isLetter_12 ?_
      refine lv_icmp_lt (tgt := 25) hx hb dX11_isLetter_15 (by decide) (fun c_3 => ?_) (fun c_3 => ?_)
      · have tc_3 : x.toInt < 55296 := v_lt c_3
        refine lv_iconst (v := 1) hx hb dX11_isLetter_25 (by decide) ?_
        refine lv_goto (tgt := 30) hx hb dX11_isLetter_26 (by decide) ?_
        have hP9 := hP.sub (ws' := []) [] rfl
        have hD9 := hD.sub (ws' := []) [] (by decide +kernel) rfl
        rw [hQQ]
        exact W.zret (v := 1) (ty := .boolean) hx hb hr (rfl) (fun t ht hW => ⟨⟨1, 1, rfl, rfl, ⟨by rw [ht]; exact hP9, hD9, by decide, by show (1 = 1 ∧ 0 ≤ x.toInt ∧ x.toInt ≤ 65535 ∧ (x.toInt < 55296 ∨ 57343 < x.toInt)) ∨ (1 = 0 ∧ (x.toInt < 0 ∨ 65535 < x.toInt ∨ (55296 ≤ x.toInt ∧ x.toInt ≤ 57343))); omega⟩⟩, hS.F ht⟩) hS.2.2 dX11_isLetter_30
      · have tc_3 : 55296 ≤ x.toInt := v_nlt c_3
        refine lv_iload_n hx hb dX11_isLetter_18 rfl (lv_at hl 0 rfl) ?_
        refine lv_ldcw hx hb hown (hts (.constant RX11 264 (57343)) (List.mem_of_getElem? (i := 3) rfl)) dX11_isLetter_19 ?_
        refine lv_icmp_le (tgt := 29) hx hb dX11_isLetter_22 (by decide) (fun c_4 => ?_) (fun c_4 => ?_)
        · have tc_4 : x.toInt ≤ 57343 := v_le c_4
          refine lv_iconst (v := 0) hx hb dX11_isLetter_29 (by decide) ?_
          have hP9 := hP.sub (ws' := []) [] rfl
          have hD9 := hD.sub (ws' := []) [] (by decide +kernel) rfl
          rw [hQQ]
          exact W.zret (v := 0) (ty := .boolean) hx hb hr (rfl) (fun t ht hW => ⟨⟨0, 0, rfl, rfl, ⟨by rw [ht]; exact hP9, hD9, by decide, by show (0 = 1 ∧ 0 ≤ x.toInt ∧ x.toInt ≤ 65535 ∧ (x.toInt < 55296 ∨ 57343 < x.toInt)) ∨ (0 = 0 ∧ (x.toInt < 0 ∨ 65535 < x.toInt ∨ (55296 ≤ x.toInt ∧ x.toInt ≤ 57343))); omega⟩⟩, hS.F ht⟩) hS.2.2 dX11_isLetter_30
        · have tc_4 : 57343 < x.toInt := v_nle c_4
          refine lv_iconst (v := 1) hx hb dX11_isLetter_25 (by decide) ?_
          refine lv_goto (tgt := 30) hx hb dX11_isLetter_26 (by decide) ?_
          have hP9 := hP.sub (ws' := []) [] rfl
          have hD9 := hD.sub (ws' := []) [] (by decide +kernel) rfl
          rw [hQQ]
          exact W.zret (v := 1) (ty := .boolean) hx hb hr (rfl) (fun t ht hW => ⟨⟨1, 1, rfl, rfl, ⟨by rw [ht]; exact hP9, hD9, by decide, by show (1 = 1 ∧ 0 ≤ x.toInt ∧ x.toInt ≤ 65535 ∧ (x.toInt < 55296 ∨ 57343 < x.toInt)) ∨ (1 = 0 ∧ (x.toInt < 0 ∨ 65535 < x.toInt ∨ (55296 ≤ x.toInt ∧ x.toInt ≤ 57343))); omega⟩⟩, hS.F ht⟩) hS.2.2 dX11_isLetter_30

end

/-! 24.a.rows -/
section
theorem dX2_known_0 : decode cX2_known 0 = .ok (.iload_n 0, 1) := by decide +kernel
theorem dX2_known_1 : decode cX2_known 1 = .ok (.ifCond .lt 12, 3) := by decide +kernel
theorem dX2_known_13 : decode cX2_known 13 = .ok (.iconst 0, 1) := by decide +kernel
theorem dX2_known_14 : decode cX2_known 14 = .ok (.ireturn, 1) := by decide +kernel
theorem dX2_known_4 : decode cX2_known 4 = .ok (.iload_n 0, 1) := by decide +kernel
theorem dX2_known_5 : decode cX2_known 5 = .ok (.iconst 5, 1) := by decide +kernel
theorem dX2_known_6 : decode cX2_known 6 = .ok (.if_icmp .gt 7, 3) := by decide +kernel
theorem dX2_known_9 : decode cX2_known 9 = .ok (.iconst 1, 1) := by decide +kernel
theorem dX2_known_10 : decode cX2_known 10 = .ok (.goto 4, 3) := by decide +kernel
theorem dX2_toldCode_0 : decode cX2_toldCode 0 = .ok (.iload_n 1, 1) := by decide +kernel
theorem dX2_toldCode_1 : decode cX2_toldCode 1 = .ok (.iconst 4, 1) := by decide +kernel
theorem dX2_toldCode_2 : decode cX2_toldCode 2 = .ok (.if_icmp .ne 10, 3) := by decide +kernel
theorem dX2_toldCode_5 : decode cX2_toldCode 5 = .ok (.aload_n 0, 1) := by decide +kernel
theorem dX2_toldCode_6 : decode cX2_toldCode 6 = .ok (.getfield 12, 3) := by decide +kernel
theorem dX2_toldCode_9 : decode cX2_toldCode 9 = .ok (.goto 16, 3) := by decide +kernel
theorem dX2_toldCode_25 : decode cX2_toldCode 25 = .ok (.areturn, 1) := by decide +kernel
theorem dX2_toldCode_12 : decode cX2_toldCode 12 = .ok (.iload_n 1, 1) := by decide +kernel
theorem dX2_toldCode_13 : decode cX2_toldCode 13 = .ok (.iconst 5, 1) := by decide +kernel
theorem dX2_toldCode_14 : decode cX2_toldCode 14 = .ok (.if_icmp .ne 10, 3) := by decide +kernel
theorem dX2_toldCode_17 : decode cX2_toldCode 17 = .ok (.aload_n 0, 1) := by decide +kernel
theorem dX2_toldCode_18 : decode cX2_toldCode 18 = .ok (.getfield 18, 3) := by decide +kernel
theorem dX2_toldCode_21 : decode cX2_toldCode 21 = .ok (.goto 4, 3) := by decide +kernel
theorem dX2_toldCode_24 : decode cX2_toldCode 24 = .ok (.aconst_null, 1) := by decide +kernel
theorem dX2_lengthOf_0 : decode cX2_lengthOf 0 = .ok (.aload_n 0, 1) := by decide +kernel
theorem dX2_lengthOf_1 : decode cX2_lengthOf 1 = .ok (.iload_n 1, 1) := by decide +kernel
set_option maxRecDepth 20000 in
theorem ggX2_lengthOf_X2_toldCode : GoodIn wsX2_lengthOf wsX2_toldCode := goodIn_r _ [5, 6, 7, 14, 15] rfl (by decide +kernel)
set_option maxRecDepth 20000 in
theorem gX2_lengthOf_X2_toldCode : GoodIn wsX2_lengthOf (wsV RX2 21 RX2 yX2_toldCode wsX2_toldCode) := goodIn_app (goodIn_r _ [1, 2, 3, 4] rfl (by decide +kernel)) ggX2_lengthOf_X2_toldCode
theorem dX2_lengthOf_2 : decode cX2_lengthOf 2 = .ok (.invokevirtual 21, 3) := by decide +kernel
theorem dX2_lengthOf_5 : decode cX2_lengthOf 5 = .ok (.astore_n 2, 1) := by decide +kernel
theorem dX2_lengthOf_6 : decode cX2_lengthOf 6 = .ok (.aload_n 2, 1) := by decide +kernel
theorem dX2_lengthOf_7 : decode cX2_lengthOf 7 = .ok (.ifnonnull 7, 3) := by decide +kernel
theorem dX2_lengthOf_14 : decode cX2_lengthOf 14 = .ok (.aload_n 2, 1) := by decide +kernel
set_option maxRecDepth 20000 in
theorem ggX2_lengthOf_X10_length : GoodIn wsX2_lengthOf wsX10_length := goodIn_r _ [12, 13, 16, 17, 18, 19] rfl (by decide +kernel)
set_option maxRecDepth 20000 in
theorem gX2_lengthOf_X10_length : GoodIn wsX2_lengthOf (wsV RX2 25 RX10 yX10_length wsX10_length) := goodIn_app (goodIn_r _ [8, 9, 10, 11] rfl (by decide +kernel)) ggX2_lengthOf_X10_length
theorem dX2_lengthOf_15 : decode cX2_lengthOf 15 = .ok (.invokevirtual 25, 3) := by decide +kernel
theorem dX2_lengthOf_18 : decode cX2_lengthOf 18 = .ok (.ireturn, 1) := by decide +kernel
theorem dX2_lengthOf_10 : decode cX2_lengthOf 10 = .ok (.iconst (-1), 1) := by decide +kernel
theorem dX2_lengthOf_11 : decode cX2_lengthOf 11 = .ok (.goto 7, 3) := by decide +kernel
theorem dX2_letterIn_0 : decode cX2_letterIn 0 = .ok (.iload_n 0, 1) := by decide +kernel
theorem dX2_letterIn_1 : decode cX2_letterIn 1 = .ok (.iconst 4, 1) := by decide +kernel
theorem dX2_letterIn_2 : decode cX2_letterIn 2 = .ok (.ishr, 1) := by decide +kernel
theorem dX2_letterIn_3 : decode cX2_letterIn 3 = .ok (.ireturn, 1) := by decide +kernel
theorem dX2_bytesIn_0 : decode cX2_bytesIn 0 = .ok (.iload_n 0, 1) := by decide +kernel
theorem dX2_bytesIn_1 : decode cX2_bytesIn 1 = .ok (.bipush 15, 2) := by decide +kernel
theorem dX2_bytesIn_3 : decode cX2_bytesIn 3 = .ok (.iand, 1) := by decide +kernel
theorem dX2_bytesIn_4 : decode cX2_bytesIn 4 = .ok (.ireturn, 1) := by decide +kernel
theorem dX2_found_0 : decode cX2_found 0 = .ok (.iload_n 0, 1) := by decide +kernel
theorem dX2_found_1 : decode cX2_found 1 = .ok (.iconst (-1), 1) := by decide +kernel
theorem dX2_found_2 : decode cX2_found 2 = .ok (.if_icmp .ne 7, 3) := by decide +kernel
theorem dX2_found_9 : decode cX2_found 9 = .ok (.iload_n 0, 1) := by decide +kernel
theorem dX2_found_10 : decode cX2_found 10 = .ok (.iconst 4, 1) := by decide +kernel
theorem dX2_found_11 : decode cX2_found 11 = .ok (.ishl, 1) := by decide +kernel
theorem dX2_found_12 : decode cX2_found 12 = .ok (.iload_n 1, 1) := by decide +kernel
theorem dX2_found_13 : decode cX2_found 13 = .ok (.iadd, 1) := by decide +kernel
theorem dX2_found_14 : decode cX2_found 14 = .ok (.ireturn, 1) := by decide +kernel
theorem dX2_found_5 : decode cX2_found 5 = .ok (.iconst (-1), 1) := by decide +kernel
theorem dX2_found_6 : decode cX2_found 6 = .ok (.goto 8, 3) := by decide +kernel
theorem dX2_letterAlone_0 : decode cX2_letterAlone 0 = .ok (.iload_n 1, 1) := by decide +kernel
theorem dX2_letterAlone_1 : decode cX2_letterAlone 1 = .ok (.tableswitch 65 0 3 #[31, 44, 31, 46], 31) := by decide +kernel
theorem dX2_letterAlone_32 : decode cX2_letterAlone 32 = .ok (.iload_n 2, 1) := by decide +kernel
theorem dX2_letterAlone_33 : decode cX2_letterAlone 33 = .ok (.sipush 128, 3) := by decide +kernel
theorem dX2_letterAlone_36 : decode cX2_letterAlone 36 = .ok (.if_icmp .ge 7, 3) := by decide +kernel
theorem dX2_letterAlone_43 : decode cX2_letterAlone 43 = .ok (.iconst (-1), 1) := by decide +kernel
theorem dX2_letterAlone_44 : decode cX2_letterAlone 44 = .ok (.ireturn, 1) := by decide +kernel
theorem dX2_letterAlone_39 : decode cX2_letterAlone 39 = .ok (.iload_n 2, 1) := by decide +kernel
theorem dX2_letterAlone_40 : decode cX2_letterAlone 40 = .ok (.goto 4, 3) := by decide +kernel
theorem dX2_letterAlone_45 : decode cX2_letterAlone 45 = .ok (.iload_n 2, 1) := by decide +kernel
theorem dX2_letterAlone_46 : decode cX2_letterAlone 46 = .ok (.ireturn, 1) := by decide +kernel
theorem dX2_letterAlone_47 : decode cX2_letterAlone 47 = .ok (.iload_n 2, 1) := by decide +kernel
theorem dX2_letterAlone_48 : decode cX2_letterAlone 48 = .ok (.sipush 128, 3) := by decide +kernel
theorem dX2_letterAlone_51 : decode cX2_letterAlone 51 = .ok (.if_icmp .ge 13, 3) := by decide +kernel
theorem dX2_letterAlone_64 : decode cX2_letterAlone 64 = .ok (.iconst (-1), 1) := by decide +kernel
theorem dX2_letterAlone_65 : decode cX2_letterAlone 65 = .ok (.ireturn, 1) := by decide +kernel
theorem dX2_letterAlone_54 : decode cX2_letterAlone 54 = .ok (.iload_n 2, 1) := by decide +kernel
theorem dX2_letterAlone_55 : decode cX2_letterAlone 55 = .ok (.bipush 38, 2) := by decide +kernel
theorem dX2_letterAlone_57 : decode cX2_letterAlone 57 = .ok (.if_icmp .eq 7, 3) := by decide +kernel
theorem dX2_letterAlone_60 : decode cX2_letterAlone 60 = .ok (.iload_n 2, 1) := by decide +kernel
theorem dX2_letterAlone_61 : decode cX2_letterAlone 61 = .ok (.goto 4, 3) := by decide +kernel
theorem dX2_letterAlone_66 : decode cX2_letterAlone 66 = .ok (.aload_n 0, 1) := by decide +kernel
theorem dX2_letterAlone_67 : decode cX2_letterAlone 67 = .ok (.iload_n 1, 1) := by decide +kernel
set_option maxRecDepth 20000 in
theorem ggX2_letterAlone_X2_toldCode : GoodIn wsX2_letterAlone wsX2_toldCode := goodIn_r _ [5, 6, 7, 14, 15] rfl (by decide +kernel)
set_option maxRecDepth 20000 in
theorem gX2_letterAlone_X2_toldCode : GoodIn wsX2_letterAlone (wsV RX2 21 RX2 yX2_toldCode wsX2_toldCode) := goodIn_app (goodIn_r _ [1, 2, 3, 4] rfl (by decide +kernel)) ggX2_letterAlone_X2_toldCode
theorem dX2_letterAlone_68 : decode cX2_letterAlone 68 = .ok (.invokevirtual 21, 3) := by decide +kernel
theorem dX2_letterAlone_71 : decode cX2_letterAlone 71 = .ok (.astore_n 3, 1) := by decide +kernel
theorem dX2_letterAlone_72 : decode cX2_letterAlone 72 = .ok (.aload_n 3, 1) := by decide +kernel
theorem dX2_letterAlone_73 : decode cX2_letterAlone 73 = .ok (.ifnonnull 7, 3) := by decide +kernel
theorem dX2_letterAlone_80 : decode cX2_letterAlone 80 = .ok (.aload_n 3, 1) := by decide +kernel
theorem dX2_letterAlone_81 : decode cX2_letterAlone 81 = .ok (.iload_n 2, 1) := by decide +kernel
set_option maxRecDepth 20000 in
theorem ggX2_letterAlone_X10_letterFor : GoodIn wsX2_letterAlone wsX10_letterFor := goodIn_r _ [12, 13, 16, 17, 18, 19] rfl (by decide +kernel)
set_option maxRecDepth 20000 in
theorem gX2_letterAlone_X10_letterFor : GoodIn wsX2_letterAlone (wsV RX2 29 RX10 yX10_letterFor wsX10_letterFor) := goodIn_app (goodIn_r _ [8, 9, 10, 11] rfl (by decide +kernel)) ggX2_letterAlone_X10_letterFor
theorem dX2_letterAlone_82 : decode cX2_letterAlone 82 = .ok (.invokevirtual 29, 3) := by decide +kernel
theorem dX2_letterAlone_85 : decode cX2_letterAlone 85 = .ok (.ireturn, 1) := by decide +kernel
theorem dX2_letterAlone_76 : decode cX2_letterAlone 76 = .ok (.iconst (-1), 1) := by decide +kernel
theorem dX2_letterAlone_77 : decode cX2_letterAlone 77 = .ok (.goto 8, 3) := by decide +kernel
theorem dX2_isNumbered_0 : decode cX2_isNumbered 0 = .ok (.iload_n 0, 1) := by decide +kernel
theorem dX2_isNumbered_1 : decode cX2_isNumbered 1 = .ok (.sipush 128, 3) := by decide +kernel
theorem dX2_isNumbered_4 : decode cX2_isNumbered 4 = .ok (.if_icmp .ge 9, 3) := by decide +kernel
theorem dX2_isNumbered_13 : decode cX2_isNumbered 13 = .ok (.iconst 1, 1) := by decide +kernel
theorem dX2_isNumbered_14 : decode cX2_isNumbered 14 = .ok (.goto 4, 3) := by decide +kernel
theorem dX2_isNumbered_18 : decode cX2_isNumbered 18 = .ok (.ireturn, 1) := by decide +kernel
theorem dX2_isNumbered_7 : decode cX2_isNumbered 7 = .ok (.iload_n 0, 1) := by decide +kernel
theorem dX2_isNumbered_8 : decode cX2_isNumbered 8 = .ok (.bipush 38, 2) := by decide +kernel
theorem dX2_isNumbered_10 : decode cX2_isNumbered 10 = .ok (.if_icmp .ne 7, 3) := by decide +kernel
theorem dX2_isNumbered_17 : decode cX2_isNumbered 17 = .ok (.iconst 0, 1) := by decide +kernel
theorem dX2_decodeMany_0 : decode cX2_decodeMany 0 = .ok (.aload_n 0, 1) := by decide +kernel
theorem dX2_decodeMany_1 : decode cX2_decodeMany 1 = .ok (.iload_n 1, 1) := by decide +kernel
set_option maxRecDepth 20000 in
theorem ggX2_decodeMany_X5_get : GoodIn wsX2_decodeMany wsX5_get := goodIn_r _ [5, 6, 7, 18, 19] rfl (by decide +kernel)
set_option maxRecDepth 20000 in
theorem gX2_decodeMany_X5_get : GoodIn wsX2_decodeMany (wsV RX2 33 RX5 yX5_get wsX5_get) := goodIn_app (goodIn_r _ [1, 2, 3, 4] rfl (by decide +kernel)) ggX2_decodeMany_X5_get
theorem dX2_decodeMany_2 : decode cX2_decodeMany 2 = .ok (.invokevirtual 33, 3) := by decide +kernel
theorem dX2_decodeMany_5 : decode cX2_decodeMany 5 = .ok (.istore_n 3, 1) := by decide +kernel
theorem dX2_decodeMany_6 : decode cX2_decodeMany 6 = .ok (.iload_n 3, 1) := by decide +kernel
theorem dX2_decodeMany_7 : decode cX2_decodeMany 7 = .ok (.sipush 224, 3) := by decide +kernel
theorem dX2_decodeMany_10 : decode cX2_decodeMany 10 = .ok (.if_icmp .lt 7, 3) := by decide +kernel
theorem dX2_decodeMany_17 : decode cX2_decodeMany 17 = .ok (.iconst 2, 1) := by decide +kernel
theorem dX2_decodeMany_18 : decode cX2_decodeMany 18 = .ok (.istore 4, 2) := by decide +kernel
theorem dX2_decodeMany_20 : decode cX2_decodeMany 20 = .ok (.iload_n 3, 1) := by decide +kernel
theorem dX2_decodeMany_21 : decode cX2_decodeMany 21 = .ok (.sipush 192, 3) := by decide +kernel
theorem dX2_decodeMany_24 : decode cX2_decodeMany 24 = .ok (.if_icmp .lt 18, 3) := by decide +kernel
theorem dX2_decodeMany_42 : decode cX2_decodeMany 42 = .ok (.iconst (-1), 1) := by decide +kernel
theorem dX2_decodeMany_43 : decode cX2_decodeMany 43 = .ok (.ireturn, 1) := by decide +kernel
theorem dX2_decodeMany_27 : decode cX2_decodeMany 27 = .ok (.iload_n 3, 1) := by decide +kernel
theorem dX2_decodeMany_28 : decode cX2_decodeMany 28 = .ok (.sipush 239, 3) := by decide +kernel
theorem dX2_decodeMany_31 : decode cX2_decodeMany 31 = .ok (.if_icmp .gt 11, 3) := by decide +kernel
theorem dX2_decodeMany_34 : decode cX2_decodeMany 34 = .ok (.iload 4, 2) := by decide +kernel
theorem dX2_decodeMany_36 : decode cX2_decodeMany 36 = .ok (.iload_n 2, 1) := by decide +kernel
theorem dX2_decodeMany_37 : decode cX2_decodeMany 37 = .ok (.iload_n 1, 1) := by decide +kernel
theorem dX2_decodeMany_38 : decode cX2_decodeMany 38 = .ok (.isub, 1) := by decide +kernel
theorem dX2_decodeMany_39 : decode cX2_decodeMany 39 = .ok (.if_icmp .le 5, 3) := by decide +kernel
theorem dX2_decodeMany_44 : decode cX2_decodeMany 44 = .ok (.iload 4, 2) := by decide +kernel
theorem dX2_decodeMany_46 : decode cX2_decodeMany 46 = .ok (.iconst 3, 1) := by decide +kernel
theorem dX2_decodeMany_47 : decode cX2_decodeMany 47 = .ok (.if_icmp .ne 11, 3) := by decide +kernel
theorem dX2_decodeMany_58 : decode cX2_decodeMany 58 = .ok (.iload_n 3, 1) := by decide +kernel
theorem dX2_decodeMany_59 : decode cX2_decodeMany 59 = .ok (.sipush 192, 3) := by decide +kernel
theorem dX2_decodeMany_62 : decode cX2_decodeMany 62 = .ok (.isub, 1) := by decide +kernel
theorem dX2_decodeMany_63 : decode cX2_decodeMany 63 = .ok (.istore 5, 2) := by decide +kernel
theorem dX2_decodeMany_65 : decode cX2_decodeMany 65 = .ok (.iconst 1, 1) := by decide +kernel
theorem dX2_decodeMany_66 : decode cX2_decodeMany 66 = .ok (.istore 6, 2) := by decide +kernel
theorem dX2_decodeMany_68 : decode cX2_decodeMany 68 = .ok (.iload 6, 2) := by decide +kernel
theorem dX2_decodeMany_70 : decode cX2_decodeMany 70 = .ok (.iload 4, 2) := by decide +kernel
theorem dX2_decodeMany_72 : decode cX2_decodeMany 72 = .ok (.if_icmp .ge 51, 3) := by decide +kernel
theorem dX2_decodeMany_123 : decode cX2_decodeMany 123 = .ok (.iload 5, 2) := by decide +kernel
theorem dX2_decodeMany_125 : decode cX2_decodeMany 125 = .ok (.iload 4, 2) := by decide +kernel
theorem dX2_decodeMany_127 : decode cX2_decodeMany 127 = .ok (.iconst 3, 1) := by decide +kernel
theorem dX2_decodeMany_128 : decode cX2_decodeMany 128 = .ok (.if_icmp .ne 9, 3) := by decide +kernel
theorem dX2_decodeMany_137 : decode cX2_decodeMany 137 = .ok (.sipush 128, 3) := by decide +kernel
theorem dX2_decodeMany_140 : decode cX2_decodeMany 140 = .ok (.if_icmp .lt 7, 3) := by decide +kernel
theorem dX2_decodeMany_147 : decode cX2_decodeMany 147 = .ok (.iconst 0, 1) := by decide +kernel
theorem dX2_decodeMany_148 : decode cX2_decodeMany 148 = .ok (.istore 6, 2) := by decide +kernel
theorem dX2_decodeMany_150 : decode cX2_decodeMany 150 = .ok (.iload 6, 2) := by decide +kernel
theorem dX2_decodeMany_152 : decode cX2_decodeMany 152 = .ok (.ifCond .eq 21, 3) := by decide +kernel
theorem dX2_decodeMany_173 : decode cX2_decodeMany 173 = .ok (.iconst (-1), 1) := by decide +kernel
theorem dX2_decodeMany_174 : decode cX2_decodeMany 174 = .ok (.ireturn, 1) := by decide +kernel
theorem dX2_decodeMany_143 : decode cX2_decodeMany 143 = .ok (.iconst 1, 1) := by decide +kernel
theorem dX2_decodeMany_144 : decode cX2_decodeMany 144 = .ok (.goto 4, 3) := by decide +kernel
theorem dX2_decodeMany_155 : decode cX2_decodeMany 155 = .ok (.iload 5, 2) := by decide +kernel
set_option maxRecDepth 20000 in
theorem ggX2_decodeMany_X11_isLetter : GoodIn wsX2_decodeMany wsX11_isLetter := goodIn_r _ [10, 11, 12, 13] rfl (by decide +kernel)
set_option maxRecDepth 20000 in
theorem gX2_decodeMany_X11_isLetter_n52 : GoodIn wsX2_decodeMany (wsX11_isLetter) := ggX2_decodeMany_X11_isLetter
theorem dX2_decodeMany_157 : decode cX2_decodeMany 157 = .ok (.invokestatic 52, 3) := by decide +kernel
theorem dX2_decodeMany_160 : decode cX2_decodeMany 160 = .ok (.ifCond .eq 13, 3) := by decide +kernel
theorem dX2_decodeMany_163 : decode cX2_decodeMany 163 = .ok (.iload 5, 2) := by decide +kernel
theorem dX2_decodeMany_165 : decode cX2_decodeMany 165 = .ok (.iload 4, 2) := by decide +kernel
set_option maxRecDepth 20000 in
theorem ggX2_decodeMany_X2_found : GoodIn wsX2_decodeMany wsX2_found := goodIn_r _ [17] rfl (by decide +kernel)
set_option maxRecDepth 20000 in
theorem gX2_decodeMany_X2_found : GoodIn wsX2_decodeMany (va_wsS RX2 42 yX2_found wsX2_found) := goodIn_app (goodIn_r _ [14, 15, 16] rfl (by decide +kernel)) ggX2_decodeMany_X2_found
theorem dX2_decodeMany_167 : decode cX2_decodeMany 167 = .ok (.invokestatic 42, 3) := by decide +kernel
theorem dX2_decodeMany_170 : decode cX2_decodeMany 170 = .ok (.goto 4, 3) := by decide +kernel
theorem dX2_decodeMany_75 : decode cX2_decodeMany 75 = .ok (.aload_n 0, 1) := by decide +kernel
theorem dX2_decodeMany_76 : decode cX2_decodeMany 76 = .ok (.iload_n 1, 1) := by decide +kernel
theorem dX2_decodeMany_77 : decode cX2_decodeMany 77 = .ok (.iload 6, 2) := by decide +kernel
theorem dX2_decodeMany_79 : decode cX2_decodeMany 79 = .ok (.iadd, 1) := by decide +kernel
theorem dX2_decodeMany_80 : decode cX2_decodeMany 80 = .ok (.invokevirtual 33, 3) := by decide +kernel
theorem dX2_decodeMany_83 : decode cX2_decodeMany 83 = .ok (.istore 7, 2) := by decide +kernel
theorem dX2_decodeMany_85 : decode cX2_decodeMany 85 = .ok (.iload 7, 2) := by decide +kernel
theorem dX2_decodeMany_87 : decode cX2_decodeMany 87 = .ok (.sipush 128, 3) := by decide +kernel
theorem dX2_decodeMany_90 : decode cX2_decodeMany 90 = .ok (.if_icmp .lt 11, 3) := by decide +kernel
theorem dX2_decodeMany_101 : decode cX2_decodeMany 101 = .ok (.iconst (-1), 1) := by decide +kernel
theorem dX2_decodeMany_102 : decode cX2_decodeMany 102 = .ok (.ireturn, 1) := by decide +kernel
theorem dX2_decodeMany_93 : decode cX2_decodeMany 93 = .ok (.iload 7, 2) := by decide +kernel
theorem dX2_decodeMany_95 : decode cX2_decodeMany 95 = .ok (.sipush 191, 3) := by decide +kernel
theorem dX2_decodeMany_98 : decode cX2_decodeMany 98 = .ok (.if_icmp .le 5, 3) := by decide +kernel
theorem dX2_decodeMany_103 : decode cX2_decodeMany 103 = .ok (.iload 5, 2) := by decide +kernel
theorem dX2_decodeMany_105 : decode cX2_decodeMany 105 = .ok (.bipush 64, 2) := by decide +kernel
theorem dX2_decodeMany_107 : decode cX2_decodeMany 107 = .ok (.imul, 1) := by decide +kernel
theorem dX2_decodeMany_108 : decode cX2_decodeMany 108 = .ok (.iload 7, 2) := by decide +kernel
theorem dX2_decodeMany_110 : decode cX2_decodeMany 110 = .ok (.iadd, 1) := by decide +kernel
theorem dX2_decodeMany_111 : decode cX2_decodeMany 111 = .ok (.sipush 128, 3) := by decide +kernel
theorem dX2_decodeMany_114 : decode cX2_decodeMany 114 = .ok (.isub, 1) := by decide +kernel
theorem dX2_decodeMany_115 : decode cX2_decodeMany 115 = .ok (.istore 5, 2) := by decide +kernel
theorem dX2_decodeMany_117 : decode cX2_decodeMany 117 = .ok (.iinc 6 1, 3) := by decide +kernel
theorem dX2_decodeMany_120 : decode cX2_decodeMany 120 = .ok (.goto (-52), 3) := by decide +kernel
theorem dX2_decodeMany_13 : decode cX2_decodeMany 13 = .ok (.iconst 3, 1) := by decide +kernel
theorem dX2_decodeMany_14 : decode cX2_decodeMany 14 = .ok (.goto 4, 3) := by decide +kernel
theorem dX2_decodeMany_50 : decode cX2_decodeMany 50 = .ok (.iload_n 3, 1) := by decide +kernel
theorem dX2_decodeMany_51 : decode cX2_decodeMany 51 = .ok (.sipush 224, 3) := by decide +kernel
theorem dX2_decodeMany_54 : decode cX2_decodeMany 54 = .ok (.isub, 1) := by decide +kernel
theorem dX2_decodeMany_55 : decode cX2_decodeMany 55 = .ok (.goto 8, 3) := by decide +kernel
theorem dX2_decodeMany_131 : decode cX2_decodeMany 131 = .ok (.sipush 2048, 3) := by decide +kernel
theorem dX2_decodeMany_134 : decode cX2_decodeMany 134 = .ok (.goto 6, 3) := by decide +kernel
theorem dX2_decodeNumber_0 : decode cX2_decodeNumber 0 = .ok (.aload_n 0, 1) := by decide +kernel
theorem dX2_decodeNumber_1 : decode cX2_decodeNumber 1 = .ok (.iload_n 1, 1) := by decide +kernel
set_option maxRecDepth 20000 in
theorem ggX2_decodeNumber_X5_get : GoodIn wsX2_decodeNumber wsX5_get := goodIn_r _ [5, 6, 7, 21, 22] rfl (by decide +kernel)
set_option maxRecDepth 20000 in
theorem gX2_decodeNumber_X5_get : GoodIn wsX2_decodeNumber (wsV RX2 33 RX5 yX5_get wsX5_get) := goodIn_app (goodIn_r _ [1, 2, 3, 4] rfl (by decide +kernel)) ggX2_decodeNumber_X5_get
theorem dX2_decodeNumber_2 : decode cX2_decodeNumber 2 = .ok (.invokevirtual 33, 3) := by decide +kernel
theorem dX2_decodeNumber_5 : decode cX2_decodeNumber 5 = .ok (.bipush 38, 2) := by decide +kernel
theorem dX2_decodeNumber_7 : decode cX2_decodeNumber 7 = .ok (.if_icmp .ne 22, 3) := by decide +kernel
theorem dX2_decodeNumber_29 : decode cX2_decodeNumber 29 = .ok (.iconst (-1), 1) := by decide +kernel
theorem dX2_decodeNumber_30 : decode cX2_decodeNumber 30 = .ok (.ireturn, 1) := by decide +kernel
theorem dX2_decodeNumber_10 : decode cX2_decodeNumber 10 = .ok (.iload_n 1, 1) := by decide +kernel
theorem dX2_decodeNumber_11 : decode cX2_decodeNumber 11 = .ok (.iconst 1, 1) := by decide +kernel
theorem dX2_decodeNumber_12 : decode cX2_decodeNumber 12 = .ok (.iadd, 1) := by decide +kernel
theorem dX2_decodeNumber_13 : decode cX2_decodeNumber 13 = .ok (.iload_n 2, 1) := by decide +kernel
theorem dX2_decodeNumber_14 : decode cX2_decodeNumber 14 = .ok (.if_icmp .ge 15, 3) := by decide +kernel
theorem dX2_decodeNumber_17 : decode cX2_decodeNumber 17 = .ok (.aload_n 0, 1) := by decide +kernel
theorem dX2_decodeNumber_18 : decode cX2_decodeNumber 18 = .ok (.iload_n 1, 1) := by decide +kernel
theorem dX2_decodeNumber_19 : decode cX2_decodeNumber 19 = .ok (.iconst 1, 1) := by decide +kernel
theorem dX2_decodeNumber_20 : decode cX2_decodeNumber 20 = .ok (.iadd, 1) := by decide +kernel
theorem dX2_decodeNumber_21 : decode cX2_decodeNumber 21 = .ok (.invokevirtual 33, 3) := by decide +kernel
theorem dX2_decodeNumber_24 : decode cX2_decodeNumber 24 = .ok (.bipush 35, 2) := by decide +kernel
theorem dX2_decodeNumber_26 : decode cX2_decodeNumber 26 = .ok (.if_icmp .eq 5, 3) := by decide +kernel
theorem dX2_decodeNumber_31 : decode cX2_decodeNumber 31 = .ok (.iconst 0, 1) := by decide +kernel
theorem dX2_decodeNumber_32 : decode cX2_decodeNumber 32 = .ok (.istore_n 3, 1) := by decide +kernel
theorem dX2_decodeNumber_33 : decode cX2_decodeNumber 33 = .ok (.iload_n 1, 1) := by decide +kernel
theorem dX2_decodeNumber_34 : decode cX2_decodeNumber 34 = .ok (.iconst 2, 1) := by decide +kernel
theorem dX2_decodeNumber_35 : decode cX2_decodeNumber 35 = .ok (.iadd, 1) := by decide +kernel
theorem dX2_decodeNumber_36 : decode cX2_decodeNumber 36 = .ok (.istore 4, 2) := by decide +kernel
theorem dX2_decodeNumber_38 : decode cX2_decodeNumber 38 = .ok (.iload 4, 2) := by decide +kernel
theorem dX2_decodeNumber_40 : decode cX2_decodeNumber 40 = .ok (.iload_n 2, 1) := by decide +kernel
theorem dX2_decodeNumber_41 : decode cX2_decodeNumber 41 = .ok (.if_icmp .ge 112, 3) := by decide +kernel
theorem dX2_decodeNumber_153 : decode cX2_decodeNumber 153 = .ok (.iconst (-1), 1) := by decide +kernel
theorem dX2_decodeNumber_154 : decode cX2_decodeNumber 154 = .ok (.ireturn, 1) := by decide +kernel
theorem dX2_decodeNumber_44 : decode cX2_decodeNumber 44 = .ok (.iload 4, 2) := by decide +kernel
theorem dX2_decodeNumber_46 : decode cX2_decodeNumber 46 = .ok (.iload_n 1, 1) := by decide +kernel
theorem dX2_decodeNumber_47 : decode cX2_decodeNumber 47 = .ok (.bipush 8, 2) := by decide +kernel
theorem dX2_decodeNumber_49 : decode cX2_decodeNumber 49 = .ok (.iadd, 1) := by decide +kernel
theorem dX2_decodeNumber_50 : decode cX2_decodeNumber 50 = .ok (.if_icmp .ge 103, 3) := by decide +kernel
theorem dX2_decodeNumber_53 : decode cX2_decodeNumber 53 = .ok (.aload_n 0, 1) := by decide +kernel
theorem dX2_decodeNumber_54 : decode cX2_decodeNumber 54 = .ok (.iload 4, 2) := by decide +kernel
theorem dX2_decodeNumber_56 : decode cX2_decodeNumber 56 = .ok (.invokevirtual 33, 3) := by decide +kernel
theorem dX2_decodeNumber_59 : decode cX2_decodeNumber 59 = .ok (.istore 5, 2) := by decide +kernel
theorem dX2_decodeNumber_61 : decode cX2_decodeNumber 61 = .ok (.iload 5, 2) := by decide +kernel
theorem dX2_decodeNumber_63 : decode cX2_decodeNumber 63 = .ok (.bipush 59, 2) := by decide +kernel
theorem dX2_decodeNumber_65 : decode cX2_decodeNumber 65 = .ok (.if_icmp .ne 32, 3) := by decide +kernel
theorem dX2_decodeNumber_97 : decode cX2_decodeNumber 97 = .ok (.iload_n 3, 1) := by decide +kernel
theorem dX2_decodeNumber_98 : decode cX2_decodeNumber 98 = .ok (.ifCond .ne 14, 3) := by decide +kernel
theorem dX2_decodeNumber_112 : decode cX2_decodeNumber 112 = .ok (.iconst 0, 1) := by decide +kernel
theorem dX2_decodeNumber_113 : decode cX2_decodeNumber 113 = .ok (.istore 6, 2) := by decide +kernel
theorem dX2_decodeNumber_115 : decode cX2_decodeNumber 115 = .ok (.iload 5, 2) := by decide +kernel
theorem dX2_decodeNumber_117 : decode cX2_decodeNumber 117 = .ok (.bipush 48, 2) := by decide +kernel
theorem dX2_decodeNumber_119 : decode cX2_decodeNumber 119 = .ok (.if_icmp .lt 15, 3) := by decide +kernel
theorem dX2_decodeNumber_134 : decode cX2_decodeNumber 134 = .ok (.iconst (-1), 1) := by decide +kernel
theorem dX2_decodeNumber_135 : decode cX2_decodeNumber 135 = .ok (.ireturn, 1) := by decide +kernel
theorem dX2_decodeNumber_122 : decode cX2_decodeNumber 122 = .ok (.iload 5, 2) := by decide +kernel
theorem dX2_decodeNumber_124 : decode cX2_decodeNumber 124 = .ok (.bipush 57, 2) := by decide +kernel
theorem dX2_decodeNumber_126 : decode cX2_decodeNumber 126 = .ok (.if_icmp .gt 8, 3) := by decide +kernel
theorem dX2_decodeNumber_129 : decode cX2_decodeNumber 129 = .ok (.iload 6, 2) := by decide +kernel
theorem dX2_decodeNumber_131 : decode cX2_decodeNumber 131 = .ok (.ifCond .eq 5, 3) := by decide +kernel
theorem dX2_decodeNumber_136 : decode cX2_decodeNumber 136 = .ok (.iload_n 3, 1) := by decide +kernel
theorem dX2_decodeNumber_137 : decode cX2_decodeNumber 137 = .ok (.bipush 10, 2) := by decide +kernel
theorem dX2_decodeNumber_139 : decode cX2_decodeNumber 139 = .ok (.imul, 1) := by decide +kernel
theorem dX2_decodeNumber_140 : decode cX2_decodeNumber 140 = .ok (.iload 5, 2) := by decide +kernel
theorem dX2_decodeNumber_142 : decode cX2_decodeNumber 142 = .ok (.iadd, 1) := by decide +kernel
theorem dX2_decodeNumber_143 : decode cX2_decodeNumber 143 = .ok (.bipush 48, 2) := by decide +kernel
theorem dX2_decodeNumber_145 : decode cX2_decodeNumber 145 = .ok (.isub, 1) := by decide +kernel
theorem dX2_decodeNumber_146 : decode cX2_decodeNumber 146 = .ok (.istore_n 3, 1) := by decide +kernel
theorem dX2_decodeNumber_147 : decode cX2_decodeNumber 147 = .ok (.iinc 4 1, 3) := by decide +kernel
theorem dX2_decodeNumber_150 : decode cX2_decodeNumber 150 = .ok (.goto (-112), 3) := by decide +kernel
theorem dX2_decodeNumber_101 : decode cX2_decodeNumber 101 = .ok (.iload 5, 2) := by decide +kernel
theorem dX2_decodeNumber_103 : decode cX2_decodeNumber 103 = .ok (.bipush 48, 2) := by decide +kernel
theorem dX2_decodeNumber_105 : decode cX2_decodeNumber 105 = .ok (.if_icmp .ne 7, 3) := by decide +kernel
theorem dX2_decodeNumber_108 : decode cX2_decodeNumber 108 = .ok (.iconst 1, 1) := by decide +kernel
theorem dX2_decodeNumber_109 : decode cX2_decodeNumber 109 = .ok (.goto 4, 3) := by decide +kernel
theorem dX2_decodeNumber_68 : decode cX2_decodeNumber 68 = .ok (.iload_n 3, 1) := by decide +kernel
set_option maxRecDepth 20000 in
theorem ggX2_decodeNumber_X11_isLetter : GoodIn wsX2_decodeNumber wsX11_isLetter := goodIn_r _ [10, 11, 12, 13] rfl (by decide +kernel)
set_option maxRecDepth 20000 in
theorem gX2_decodeNumber_X11_isLetter_n52 : GoodIn wsX2_decodeNumber (wsX11_isLetter) := ggX2_decodeNumber_X11_isLetter
theorem dX2_decodeNumber_69 : decode cX2_decodeNumber 69 = .ok (.invokestatic 52, 3) := by decide +kernel
theorem dX2_decodeNumber_72 : decode cX2_decodeNumber 72 = .ok (.ifCond .eq 23, 3) := by decide +kernel
theorem dX2_decodeNumber_95 : decode cX2_decodeNumber 95 = .ok (.iconst (-1), 1) := by decide +kernel
theorem dX2_decodeNumber_96 : decode cX2_decodeNumber 96 = .ok (.ireturn, 1) := by decide +kernel
theorem dX2_decodeNumber_75 : decode cX2_decodeNumber 75 = .ok (.iload_n 3, 1) := by decide +kernel
set_option maxRecDepth 20000 in
theorem ggX2_decodeNumber_X2_isNumbered : GoodIn wsX2_decodeNumber wsX2_isNumbered := goodIn_r _ [17] rfl (by decide +kernel)
set_option maxRecDepth 20000 in
theorem gX2_decodeNumber_X2_isNumbered : GoodIn wsX2_decodeNumber (va_wsS RX2 56 yX2_isNumbered wsX2_isNumbered) := goodIn_app (goodIn_r _ [14, 15, 16] rfl (by decide +kernel)) ggX2_decodeNumber_X2_isNumbered
theorem dX2_decodeNumber_76 : decode cX2_decodeNumber 76 = .ok (.invokestatic 56, 3) := by decide +kernel
theorem dX2_decodeNumber_79 : decode cX2_decodeNumber 79 = .ok (.ifCond .eq 16, 3) := by decide +kernel
theorem dX2_decodeNumber_82 : decode cX2_decodeNumber 82 = .ok (.iload_n 3, 1) := by decide +kernel
theorem dX2_decodeNumber_83 : decode cX2_decodeNumber 83 = .ok (.iload 4, 2) := by decide +kernel
theorem dX2_decodeNumber_85 : decode cX2_decodeNumber 85 = .ok (.iconst 1, 1) := by decide +kernel
theorem dX2_decodeNumber_86 : decode cX2_decodeNumber 86 = .ok (.iadd, 1) := by decide +kernel
theorem dX2_decodeNumber_87 : decode cX2_decodeNumber 87 = .ok (.iload_n 1, 1) := by decide +kernel
theorem dX2_decodeNumber_88 : decode cX2_decodeNumber 88 = .ok (.isub, 1) := by decide +kernel
set_option maxRecDepth 20000 in
theorem ggX2_decodeNumber_X2_found : GoodIn wsX2_decodeNumber wsX2_found := goodIn_r _ [20] rfl (by decide +kernel)
set_option maxRecDepth 20000 in
theorem gX2_decodeNumber_X2_found : GoodIn wsX2_decodeNumber (va_wsS RX2 42 yX2_found wsX2_found) := goodIn_app (goodIn_r _ [18, 19, 16] rfl (by decide +kernel)) ggX2_decodeNumber_X2_found
theorem dX2_decodeNumber_89 : decode cX2_decodeNumber 89 = .ok (.invokestatic 42, 3) := by decide +kernel
theorem dX2_decodeNumber_92 : decode cX2_decodeNumber 92 = .ok (.goto 4, 3) := by decide +kernel
theorem dX2_decode_0 : decode cX2_decode 0 = .ok (.aload_n 2, 1) := by decide +kernel
theorem dX2_decode_1 : decode cX2_decode 1 = .ok (.iload_n 3, 1) := by decide +kernel
set_option maxRecDepth 20000 in
theorem ggX2_decode_X5_get : GoodIn wsX2_decode wsX5_get := goodIn_r _ [5, 6, 7, 43, 44] rfl (by decide +kernel)
set_option maxRecDepth 20000 in
theorem gX2_decode_X5_get : GoodIn wsX2_decode (wsV RX2 33 RX5 yX5_get wsX5_get) := goodIn_app (goodIn_r _ [1, 2, 3, 4] rfl (by decide +kernel)) ggX2_decode_X5_get
theorem dX2_decode_2 : decode cX2_decode 2 = .ok (.invokevirtual 33, 3) := by decide +kernel
theorem dX2_decode_5 : decode cX2_decode 5 = .ok (.istore 5, 2) := by decide +kernel
theorem dX2_decode_7 : decode cX2_decode 7 = .ok (.iload 5, 2) := by decide +kernel
theorem dX2_decode_9 : decode cX2_decode 9 = .ok (.iconst (-1), 1) := by decide +kernel
theorem dX2_decode_10 : decode cX2_decode 10 = .ok (.if_icmp .eq 9, 3) := by decide +kernel
theorem dX2_decode_19 : decode cX2_decode 19 = .ok (.iconst (-1), 1) := by decide +kernel
theorem dX2_decode_20 : decode cX2_decode 20 = .ok (.ireturn, 1) := by decide +kernel
theorem dX2_decode_13 : decode cX2_decode 13 = .ok (.iload_n 3, 1) := by decide +kernel
theorem dX2_decode_14 : decode cX2_decode 14 = .ok (.iload 4, 2) := by decide +kernel
theorem dX2_decode_16 : decode cX2_decode 16 = .ok (.if_icmp .lt 5, 3) := by decide +kernel
theorem dX2_decode_21 : decode cX2_decode 21 = .ok (.aload_n 0, 1) := by decide +kernel
theorem dX2_decode_22 : decode cX2_decode 22 = .ok (.iload_n 1, 1) := by decide +kernel
theorem dX2_decode_23 : decode cX2_decode 23 = .ok (.iload 5, 2) := by decide +kernel
set_option maxRecDepth 20000 in
theorem ggX2_decode_X2_letterAlone : GoodIn wsX2_decode wsX2_letterAlone := goodIn_r _ [12, 13, 14, 15, 11, 16, 17, 18, 19, 20, 21, 22, 23, 24, 45, 46, 47, 48, 49, 50] rfl (by decide +kernel)
set_option maxRecDepth 20000 in
theorem gX2_decode_X2_letterAlone : GoodIn wsX2_decode (wsV RX2 38 RX2 yX2_letterAlone wsX2_letterAlone) := goodIn_app (goodIn_r _ [8, 9, 10, 11] rfl (by decide +kernel)) ggX2_decode_X2_letterAlone
theorem dX2_decode_25 : decode cX2_decode 25 = .ok (.invokevirtual 38, 3) := by decide +kernel
theorem dX2_decode_28 : decode cX2_decode 28 = .ok (.istore 6, 2) := by decide +kernel
theorem dX2_decode_30 : decode cX2_decode 30 = .ok (.iload 6, 2) := by decide +kernel
theorem dX2_decode_32 : decode cX2_decode 32 = .ok (.iconst (-1), 1) := by decide +kernel
theorem dX2_decode_33 : decode cX2_decode 33 = .ok (.if_icmp .eq 10, 3) := by decide +kernel
theorem dX2_decode_43 : decode cX2_decode 43 = .ok (.iload_n 1, 1) := by decide +kernel
theorem dX2_decode_44 : decode cX2_decode 44 = .ok (.iconst 2, 1) := by decide +kernel
theorem dX2_decode_45 : decode cX2_decode 45 = .ok (.if_icmp .ne 11, 3) := by decide +kernel
theorem dX2_decode_56 : decode cX2_decode 56 = .ok (.iload_n 1, 1) := by decide +kernel
theorem dX2_decode_57 : decode cX2_decode 57 = .ok (.iconst 3, 1) := by decide +kernel
theorem dX2_decode_58 : decode cX2_decode 58 = .ok (.if_icmp .ne 13, 3) := by decide +kernel
theorem dX2_decode_71 : decode cX2_decode 71 = .ok (.iconst (-1), 1) := by decide +kernel
theorem dX2_decode_72 : decode cX2_decode 72 = .ok (.ireturn, 1) := by decide +kernel
theorem dX2_decode_61 : decode cX2_decode 61 = .ok (.aload_n 2, 1) := by decide +kernel
theorem dX2_decode_62 : decode cX2_decode 62 = .ok (.iload_n 3, 1) := by decide +kernel
theorem dX2_decode_63 : decode cX2_decode 63 = .ok (.iload 4, 2) := by decide +kernel
set_option maxRecDepth 20000 in
theorem ggX2_decode_X2_decodeNumber : GoodIn wsX2_decode wsX2_decodeNumber := goodIn_r _ [39, 1, 2, 3, 4, 5, 6, 7, 31, 32, 33, 34, 35, 36, 40, 41, 11, 42, 25, 26, 27, 43, 44] rfl (by decide +kernel)
set_option maxRecDepth 20000 in
theorem gX2_decode_X2_decodeNumber : GoodIn wsX2_decode (va_wsS RX2 49 yX2_decodeNumber wsX2_decodeNumber) := goodIn_app (goodIn_r _ [37, 38, 11] rfl (by decide +kernel)) ggX2_decode_X2_decodeNumber
theorem dX2_decode_65 : decode cX2_decode 65 = .ok (.invokestatic 49, 3) := by decide +kernel
theorem dX2_decode_68 : decode cX2_decode 68 = .ok (.goto 4, 3) := by decide +kernel
theorem dX2_decode_48 : decode cX2_decode 48 = .ok (.aload_n 2, 1) := by decide +kernel
theorem dX2_decode_49 : decode cX2_decode 49 = .ok (.iload_n 3, 1) := by decide +kernel
theorem dX2_decode_50 : decode cX2_decode 50 = .ok (.iload 4, 2) := by decide +kernel
set_option maxRecDepth 20000 in
theorem ggX2_decode_X2_decodeMany : GoodIn wsX2_decode wsX2_decodeMany := goodIn_r _ [30, 1, 2, 3, 4, 5, 6, 7, 31, 32, 33, 34, 35, 36, 25, 26, 11, 27, 43, 44] rfl (by decide +kernel)
set_option maxRecDepth 20000 in
theorem gX2_decode_X2_decodeMany : GoodIn wsX2_decode (va_wsS RX2 45 yX2_decodeMany wsX2_decodeMany) := goodIn_app (goodIn_r _ [28, 29, 11] rfl (by decide +kernel)) ggX2_decode_X2_decodeMany
theorem dX2_decode_52 : decode cX2_decode 52 = .ok (.invokestatic 45, 3) := by decide +kernel
theorem dX2_decode_55 : decode cX2_decode 55 = .ok (.ireturn, 1) := by decide +kernel
theorem dX2_decode_36 : decode cX2_decode 36 = .ok (.iload 6, 2) := by decide +kernel
theorem dX2_decode_38 : decode cX2_decode 38 = .ok (.iconst 1, 1) := by decide +kernel
set_option maxRecDepth 20000 in
theorem ggX2_decode_X2_found : GoodIn wsX2_decode wsX2_found := goodIn_r _ [27] rfl (by decide +kernel)
set_option maxRecDepth 20000 in
theorem gX2_decode_X2_found : GoodIn wsX2_decode (va_wsS RX2 42 yX2_found wsX2_found) := goodIn_app (goodIn_r _ [25, 26, 11] rfl (by decide +kernel)) ggX2_decode_X2_found
theorem dX2_decode_39 : decode cX2_decode 39 = .ok (.invokestatic 42, 3) := by decide +kernel
theorem dX2_decode_42 : decode cX2_decode 42 = .ok (.ireturn, 1) := by decide +kernel
theorem dX2_encodeMany_0 : decode cX2_encodeMany 0 = .ok (.iload_n 0, 1) := by decide +kernel
theorem dX2_encodeMany_1 : decode cX2_encodeMany 1 = .ok (.sipush 128, 3) := by decide +kernel
theorem dX2_encodeMany_4 : decode cX2_encodeMany 4 = .ok (.if_icmp .ge 9, 3) := by decide +kernel
theorem dX2_encodeMany_13 : decode cX2_encodeMany 13 = .ok (.iload_n 0, 1) := by decide +kernel
theorem dX2_encodeMany_14 : decode cX2_encodeMany 14 = .ok (.sipush 2048, 3) := by decide +kernel
theorem dX2_encodeMany_17 : decode cX2_encodeMany 17 = .ok (.if_icmp .ge 19, 3) := by decide +kernel
theorem dX2_encodeMany_36 : decode cX2_encodeMany 36 = .ok (.aload_n 1, 1) := by decide +kernel
theorem dX2_encodeMany_37 : decode cX2_encodeMany 37 = .ok (.sipush 224, 3) := by decide +kernel
theorem dX2_encodeMany_40 : decode cX2_encodeMany 40 = .ok (.iload_n 0, 1) := by decide +kernel
theorem dX2_encodeMany_41 : decode cX2_encodeMany 41 = .ok (.bipush 12, 2) := by decide +kernel
theorem dX2_encodeMany_43 : decode cX2_encodeMany 43 = .ok (.ishr, 1) := by decide +kernel
theorem dX2_encodeMany_44 : decode cX2_encodeMany 44 = .ok (.iadd, 1) := by decide +kernel
set_option maxRecDepth 20000 in
theorem ggX2_encodeMany_X5_add : GoodIn wsX2_encodeMany wsX5_add := goodIn_r _ [5, 6, 7, 8, 9] rfl (by decide +kernel)
set_option maxRecDepth 20000 in
theorem gX2_encodeMany_X5_add : GoodIn wsX2_encodeMany (wsV RX2 59 RX5 yX5_add wsX5_add) := goodIn_app (goodIn_r _ [1, 2, 3, 4] rfl (by decide +kernel)) ggX2_encodeMany_X5_add
theorem dX2_encodeMany_45 : decode cX2_encodeMany 45 = .ok (.invokevirtual 59, 3) := by decide +kernel
theorem dX2_encodeMany_48 : decode cX2_encodeMany 48 = .ok (.ifCond .eq 25, 3) := by decide +kernel
theorem dX2_encodeMany_73 : decode cX2_encodeMany 73 = .ok (.iconst 0, 1) := by decide +kernel
theorem dX2_encodeMany_74 : decode cX2_encodeMany 74 = .ok (.istore_n 2, 1) := by decide +kernel
theorem dX2_encodeMany_75 : decode cX2_encodeMany 75 = .ok (.iload_n 2, 1) := by decide +kernel
theorem dX2_encodeMany_76 : decode cX2_encodeMany 76 = .ok (.ifCond .eq 22, 3) := by decide +kernel
theorem dX2_encodeMany_98 : decode cX2_encodeMany 98 = .ok (.iconst 0, 1) := by decide +kernel
theorem dX2_encodeMany_99 : decode cX2_encodeMany 99 = .ok (.ireturn, 1) := by decide +kernel
theorem dX2_encodeMany_51 : decode cX2_encodeMany 51 = .ok (.aload_n 1, 1) := by decide +kernel
theorem dX2_encodeMany_52 : decode cX2_encodeMany 52 = .ok (.sipush 128, 3) := by decide +kernel
theorem dX2_encodeMany_55 : decode cX2_encodeMany 55 = .ok (.iload_n 0, 1) := by decide +kernel
theorem dX2_encodeMany_56 : decode cX2_encodeMany 56 = .ok (.bipush 6, 2) := by decide +kernel
theorem dX2_encodeMany_58 : decode cX2_encodeMany 58 = .ok (.ishr, 1) := by decide +kernel
theorem dX2_encodeMany_59 : decode cX2_encodeMany 59 = .ok (.bipush 63, 2) := by decide +kernel
theorem dX2_encodeMany_61 : decode cX2_encodeMany 61 = .ok (.iand, 1) := by decide +kernel
theorem dX2_encodeMany_62 : decode cX2_encodeMany 62 = .ok (.iadd, 1) := by decide +kernel
theorem dX2_encodeMany_63 : decode cX2_encodeMany 63 = .ok (.invokevirtual 59, 3) := by decide +kernel
theorem dX2_encodeMany_66 : decode cX2_encodeMany 66 = .ok (.ifCond .eq 7, 3) := by decide +kernel
theorem dX2_encodeMany_69 : decode cX2_encodeMany 69 = .ok (.iconst 1, 1) := by decide +kernel
theorem dX2_encodeMany_70 : decode cX2_encodeMany 70 = .ok (.goto 4, 3) := by decide +kernel
theorem dX2_encodeMany_79 : decode cX2_encodeMany 79 = .ok (.aload_n 1, 1) := by decide +kernel
theorem dX2_encodeMany_80 : decode cX2_encodeMany 80 = .ok (.sipush 128, 3) := by decide +kernel
theorem dX2_encodeMany_83 : decode cX2_encodeMany 83 = .ok (.iload_n 0, 1) := by decide +kernel
theorem dX2_encodeMany_84 : decode cX2_encodeMany 84 = .ok (.bipush 63, 2) := by decide +kernel
theorem dX2_encodeMany_86 : decode cX2_encodeMany 86 = .ok (.iand, 1) := by decide +kernel
theorem dX2_encodeMany_87 : decode cX2_encodeMany 87 = .ok (.iadd, 1) := by decide +kernel
theorem dX2_encodeMany_88 : decode cX2_encodeMany 88 = .ok (.invokevirtual 59, 3) := by decide +kernel
theorem dX2_encodeMany_91 : decode cX2_encodeMany 91 = .ok (.ifCond .eq 7, 3) := by decide +kernel
theorem dX2_encodeMany_94 : decode cX2_encodeMany 94 = .ok (.iconst 1, 1) := by decide +kernel
theorem dX2_encodeMany_95 : decode cX2_encodeMany 95 = .ok (.goto 4, 3) := by decide +kernel
theorem dX2_encodeMany_20 : decode cX2_encodeMany 20 = .ok (.aload_n 1, 1) := by decide +kernel
theorem dX2_encodeMany_21 : decode cX2_encodeMany 21 = .ok (.sipush 192, 3) := by decide +kernel
theorem dX2_encodeMany_24 : decode cX2_encodeMany 24 = .ok (.iload_n 0, 1) := by decide +kernel
theorem dX2_encodeMany_25 : decode cX2_encodeMany 25 = .ok (.bipush 6, 2) := by decide +kernel
theorem dX2_encodeMany_27 : decode cX2_encodeMany 27 = .ok (.ishr, 1) := by decide +kernel
theorem dX2_encodeMany_28 : decode cX2_encodeMany 28 = .ok (.iadd, 1) := by decide +kernel
theorem dX2_encodeMany_29 : decode cX2_encodeMany 29 = .ok (.invokevirtual 59, 3) := by decide +kernel
theorem dX2_encodeMany_32 : decode cX2_encodeMany 32 = .ok (.istore_n 2, 1) := by decide +kernel
theorem dX2_encodeMany_33 : decode cX2_encodeMany 33 = .ok (.goto 42, 3) := by decide +kernel
theorem dX2_encodeMany_7 : decode cX2_encodeMany 7 = .ok (.aload_n 1, 1) := by decide +kernel
theorem dX2_encodeMany_8 : decode cX2_encodeMany 8 = .ok (.iload_n 0, 1) := by decide +kernel
theorem dX2_encodeMany_9 : decode cX2_encodeMany 9 = .ok (.invokevirtual 59, 3) := by decide +kernel
theorem dX2_encodeMany_12 : decode cX2_encodeMany 12 = .ok (.ireturn, 1) := by decide +kernel
theorem dX2_encodeNumber_0 : decode cX2_encodeNumber 0 = .ok (.aload_n 1, 1) := by decide +kernel
theorem dX2_encodeNumber_1 : decode cX2_encodeNumber 1 = .ok (.bipush 38, 2) := by decide +kernel
set_option maxRecDepth 20000 in
theorem ggX2_encodeNumber_X5_add : GoodIn wsX2_encodeNumber wsX5_add := goodIn_r _ [5, 6, 7, 8, 9] rfl (by decide +kernel)
set_option maxRecDepth 20000 in
theorem gX2_encodeNumber_X5_add : GoodIn wsX2_encodeNumber (wsV RX2 59 RX5 yX5_add wsX5_add) := goodIn_app (goodIn_r _ [1, 2, 3, 4] rfl (by decide +kernel)) ggX2_encodeNumber_X5_add
theorem dX2_encodeNumber_3 : decode cX2_encodeNumber 3 = .ok (.invokevirtual 59, 3) := by decide +kernel
theorem dX2_encodeNumber_6 : decode cX2_encodeNumber 6 = .ok (.ifCond .eq 16, 3) := by decide +kernel
theorem dX2_encodeNumber_22 : decode cX2_encodeNumber 22 = .ok (.iconst 0, 1) := by decide +kernel
theorem dX2_encodeNumber_23 : decode cX2_encodeNumber 23 = .ok (.istore_n 2, 1) := by decide +kernel
theorem dX2_encodeNumber_24 : decode cX2_encodeNumber 24 = .ok (.iconst 0, 1) := by decide +kernel
theorem dX2_encodeNumber_25 : decode cX2_encodeNumber 25 = .ok (.istore_n 3, 1) := by decide +kernel
theorem dX2_encodeNumber_26 : decode cX2_encodeNumber 26 = .ok (.sipush 10000, 3) := by decide +kernel
theorem dX2_encodeNumber_29 : decode cX2_encodeNumber 29 = .ok (.istore 4, 2) := by decide +kernel
theorem dX2_encodeNumber_31 : decode cX2_encodeNumber 31 = .ok (.iload 4, 2) := by decide +kernel
theorem dX2_encodeNumber_33 : decode cX2_encodeNumber 33 = .ok (.ifCond .le 63, 3) := by decide +kernel
theorem dX2_encodeNumber_96 : decode cX2_encodeNumber 96 = .ok (.iload_n 2, 1) := by decide +kernel
theorem dX2_encodeNumber_97 : decode cX2_encodeNumber 97 = .ok (.ifCond .eq 16, 3) := by decide +kernel
theorem dX2_encodeNumber_113 : decode cX2_encodeNumber 113 = .ok (.iconst 0, 1) := by decide +kernel
theorem dX2_encodeNumber_114 : decode cX2_encodeNumber 114 = .ok (.ireturn, 1) := by decide +kernel
theorem dX2_encodeNumber_100 : decode cX2_encodeNumber 100 = .ok (.aload_n 1, 1) := by decide +kernel
theorem dX2_encodeNumber_101 : decode cX2_encodeNumber 101 = .ok (.bipush 59, 2) := by decide +kernel
theorem dX2_encodeNumber_103 : decode cX2_encodeNumber 103 = .ok (.invokevirtual 59, 3) := by decide +kernel
theorem dX2_encodeNumber_106 : decode cX2_encodeNumber 106 = .ok (.ifCond .eq 7, 3) := by decide +kernel
theorem dX2_encodeNumber_109 : decode cX2_encodeNumber 109 = .ok (.iconst 1, 1) := by decide +kernel
theorem dX2_encodeNumber_110 : decode cX2_encodeNumber 110 = .ok (.goto 4, 3) := by decide +kernel
theorem dX2_encodeNumber_36 : decode cX2_encodeNumber 36 = .ok (.iload_n 0, 1) := by decide +kernel
theorem dX2_encodeNumber_37 : decode cX2_encodeNumber 37 = .ok (.iload 4, 2) := by decide +kernel
theorem dX2_encodeNumber_39 : decode cX2_encodeNumber 39 = .ok (.idiv, 1) := by decide +kernel
theorem dX2_encodeNumber_40 : decode cX2_encodeNumber 40 = .ok (.bipush 10, 2) := by decide +kernel
theorem dX2_encodeNumber_42 : decode cX2_encodeNumber 42 = .ok (.irem, 1) := by decide +kernel
theorem dX2_encodeNumber_43 : decode cX2_encodeNumber 43 = .ok (.istore 5, 2) := by decide +kernel
theorem dX2_encodeNumber_45 : decode cX2_encodeNumber 45 = .ok (.iload_n 3, 1) := by decide +kernel
theorem dX2_encodeNumber_46 : decode cX2_encodeNumber 46 = .ok (.ifCond .ne 8, 3) := by decide +kernel
theorem dX2_encodeNumber_54 : decode cX2_encodeNumber 54 = .ok (.iconst 1, 1) := by decide +kernel
theorem dX2_encodeNumber_55 : decode cX2_encodeNumber 55 = .ok (.goto 4, 3) := by decide +kernel
theorem dX2_encodeNumber_59 : decode cX2_encodeNumber 59 = .ok (.istore_n 3, 1) := by decide +kernel
theorem dX2_encodeNumber_60 : decode cX2_encodeNumber 60 = .ok (.iload_n 3, 1) := by decide +kernel
theorem dX2_encodeNumber_61 : decode cX2_encodeNumber 61 = .ok (.ifCond .eq 25, 3) := by decide +kernel
theorem dX2_encodeNumber_64 : decode cX2_encodeNumber 64 = .ok (.iload_n 2, 1) := by decide +kernel
theorem dX2_encodeNumber_65 : decode cX2_encodeNumber 65 = .ok (.ifCond .eq 19, 3) := by decide +kernel
theorem dX2_encodeNumber_84 : decode cX2_encodeNumber 84 = .ok (.iconst 0, 1) := by decide +kernel
theorem dX2_encodeNumber_85 : decode cX2_encodeNumber 85 = .ok (.istore_n 2, 1) := by decide +kernel
theorem dX2_encodeNumber_86 : decode cX2_encodeNumber 86 = .ok (.iload 4, 2) := by decide +kernel
theorem dX2_encodeNumber_88 : decode cX2_encodeNumber 88 = .ok (.bipush 10, 2) := by decide +kernel
theorem dX2_encodeNumber_90 : decode cX2_encodeNumber 90 = .ok (.idiv, 1) := by decide +kernel
theorem dX2_encodeNumber_91 : decode cX2_encodeNumber 91 = .ok (.istore 4, 2) := by decide +kernel
theorem dX2_encodeNumber_93 : decode cX2_encodeNumber 93 = .ok (.goto (-62), 3) := by decide +kernel
theorem dX2_encodeNumber_68 : decode cX2_encodeNumber 68 = .ok (.aload_n 1, 1) := by decide +kernel
theorem dX2_encodeNumber_69 : decode cX2_encodeNumber 69 = .ok (.bipush 48, 2) := by decide +kernel
theorem dX2_encodeNumber_71 : decode cX2_encodeNumber 71 = .ok (.iload 5, 2) := by decide +kernel
theorem dX2_encodeNumber_73 : decode cX2_encodeNumber 73 = .ok (.iadd, 1) := by decide +kernel
theorem dX2_encodeNumber_74 : decode cX2_encodeNumber 74 = .ok (.invokevirtual 59, 3) := by decide +kernel
theorem dX2_encodeNumber_77 : decode cX2_encodeNumber 77 = .ok (.ifCond .eq 7, 3) := by decide +kernel
theorem dX2_encodeNumber_80 : decode cX2_encodeNumber 80 = .ok (.iconst 1, 1) := by decide +kernel
theorem dX2_encodeNumber_81 : decode cX2_encodeNumber 81 = .ok (.goto 4, 3) := by decide +kernel
theorem dX2_encodeNumber_49 : decode cX2_encodeNumber 49 = .ok (.iload 5, 2) := by decide +kernel
theorem dX2_encodeNumber_51 : decode cX2_encodeNumber 51 = .ok (.ifCond .eq 7, 3) := by decide +kernel
theorem dX2_encodeNumber_58 : decode cX2_encodeNumber 58 = .ok (.iconst 0, 1) := by decide +kernel
theorem dX2_encodeNumber_9 : decode cX2_encodeNumber 9 = .ok (.aload_n 1, 1) := by decide +kernel
theorem dX2_encodeNumber_10 : decode cX2_encodeNumber 10 = .ok (.bipush 35, 2) := by decide +kernel
theorem dX2_encodeNumber_12 : decode cX2_encodeNumber 12 = .ok (.invokevirtual 59, 3) := by decide +kernel
theorem dX2_encodeNumber_15 : decode cX2_encodeNumber 15 = .ok (.ifCond .eq 7, 3) := by decide +kernel
theorem dX2_encodeNumber_18 : decode cX2_encodeNumber 18 = .ok (.iconst 1, 1) := by decide +kernel
theorem dX2_encodeNumber_19 : decode cX2_encodeNumber 19 = .ok (.goto 4, 3) := by decide +kernel
theorem dX2_encode_0 : decode cX2_encode 0 = .ok (.iload_n 1, 1) := by decide +kernel
theorem dX2_encode_1 : decode cX2_encode 1 = .ok (.tableswitch 100 0 3 #[31, 52, 73, 79], 31) := by decide +kernel
theorem dX2_encode_32 : decode cX2_encode 32 = .ok (.iload_n 2, 1) := by decide +kernel
theorem dX2_encode_33 : decode cX2_encode 33 = .ok (.sipush 128, 3) := by decide +kernel
theorem dX2_encode_36 : decode cX2_encode 36 = .ok (.if_icmp .ge 15, 3) := by decide +kernel
theorem dX2_encode_51 : decode cX2_encode 51 = .ok (.iconst 0, 1) := by decide +kernel
theorem dX2_encode_52 : decode cX2_encode 52 = .ok (.ireturn, 1) := by decide +kernel
theorem dX2_encode_39 : decode cX2_encode 39 = .ok (.aload_n 3, 1) := by decide +kernel
theorem dX2_encode_40 : decode cX2_encode 40 = .ok (.iload_n 2, 1) := by decide +kernel
set_option maxRecDepth 20000 in
theorem ggX2_encode_X5_add : GoodIn wsX2_encode wsX5_add := goodIn_r _ [5, 6, 7, 36, 37] rfl (by decide +kernel)
set_option maxRecDepth 20000 in
theorem gX2_encode_X5_add : GoodIn wsX2_encode (wsV RX2 59 RX5 yX5_add wsX5_add) := goodIn_app (goodIn_r _ [1, 2, 3, 4] rfl (by decide +kernel)) ggX2_encode_X5_add
theorem dX2_encode_41 : decode cX2_encode 41 = .ok (.invokevirtual 59, 3) := by decide +kernel
theorem dX2_encode_44 : decode cX2_encode 44 = .ok (.ifCond .eq 7, 3) := by decide +kernel
theorem dX2_encode_47 : decode cX2_encode 47 = .ok (.iconst 1, 1) := by decide +kernel
theorem dX2_encode_48 : decode cX2_encode 48 = .ok (.goto 4, 3) := by decide +kernel
theorem dX2_encode_53 : decode cX2_encode 53 = .ok (.iload_n 2, 1) := by decide +kernel
theorem dX2_encode_54 : decode cX2_encode 54 = .ok (.sipush 256, 3) := by decide +kernel
theorem dX2_encode_57 : decode cX2_encode 57 = .ok (.if_icmp .ge 15, 3) := by decide +kernel
theorem dX2_encode_72 : decode cX2_encode 72 = .ok (.iconst 0, 1) := by decide +kernel
theorem dX2_encode_73 : decode cX2_encode 73 = .ok (.ireturn, 1) := by decide +kernel
theorem dX2_encode_60 : decode cX2_encode 60 = .ok (.aload_n 3, 1) := by decide +kernel
theorem dX2_encode_61 : decode cX2_encode 61 = .ok (.iload_n 2, 1) := by decide +kernel
theorem dX2_encode_62 : decode cX2_encode 62 = .ok (.invokevirtual 59, 3) := by decide +kernel
theorem dX2_encode_65 : decode cX2_encode 65 = .ok (.ifCond .eq 7, 3) := by decide +kernel
theorem dX2_encode_68 : decode cX2_encode 68 = .ok (.iconst 1, 1) := by decide +kernel
theorem dX2_encode_69 : decode cX2_encode 69 = .ok (.goto 4, 3) := by decide +kernel
theorem dX2_encode_74 : decode cX2_encode 74 = .ok (.iload_n 2, 1) := by decide +kernel
theorem dX2_encode_75 : decode cX2_encode 75 = .ok (.aload_n 3, 1) := by decide +kernel
set_option maxRecDepth 20000 in
theorem ggX2_encode_X2_encodeMany : GoodIn wsX2_encode wsX2_encodeMany := goodIn_r _ [11, 1, 2, 3, 4, 5, 6, 7, 36, 37] rfl (by decide +kernel)
set_option maxRecDepth 20000 in
theorem gX2_encode_X2_encodeMany : GoodIn wsX2_encode (va_wsS RX2 62 yX2_encodeMany wsX2_encodeMany) := goodIn_app (goodIn_r _ [8, 9, 10] rfl (by decide +kernel)) ggX2_encode_X2_encodeMany
theorem dX2_encode_76 : decode cX2_encode 76 = .ok (.invokestatic 62, 3) := by decide +kernel
theorem dX2_encode_79 : decode cX2_encode 79 = .ok (.ireturn, 1) := by decide +kernel
theorem dX2_encode_80 : decode cX2_encode 80 = .ok (.iload_n 2, 1) := by decide +kernel
set_option maxRecDepth 20000 in
theorem ggX2_encode_X2_isNumbered : GoodIn wsX2_encode wsX2_isNumbered := goodIn_r _ [14] rfl (by decide +kernel)
set_option maxRecDepth 20000 in
theorem gX2_encode_X2_isNumbered : GoodIn wsX2_encode (va_wsS RX2 56 yX2_isNumbered wsX2_isNumbered) := goodIn_app (goodIn_r _ [12, 13, 10] rfl (by decide +kernel)) ggX2_encode_X2_isNumbered
theorem dX2_encode_81 : decode cX2_encode 81 = .ok (.invokestatic 56, 3) := by decide +kernel
theorem dX2_encode_84 : decode cX2_encode 84 = .ok (.ifCond .eq 11, 3) := by decide +kernel
theorem dX2_encode_95 : decode cX2_encode 95 = .ok (.aload_n 3, 1) := by decide +kernel
theorem dX2_encode_96 : decode cX2_encode 96 = .ok (.iload_n 2, 1) := by decide +kernel
theorem dX2_encode_97 : decode cX2_encode 97 = .ok (.invokevirtual 59, 3) := by decide +kernel
theorem dX2_encode_100 : decode cX2_encode 100 = .ok (.ireturn, 1) := by decide +kernel
theorem dX2_encode_87 : decode cX2_encode 87 = .ok (.iload_n 2, 1) := by decide +kernel
theorem dX2_encode_88 : decode cX2_encode 88 = .ok (.aload_n 3, 1) := by decide +kernel
set_option maxRecDepth 20000 in
theorem ggX2_encode_X2_encodeNumber : GoodIn wsX2_encode wsX2_encodeNumber := goodIn_r _ [17, 1, 2, 3, 4, 5, 6, 7, 36, 37] rfl (by decide +kernel)
set_option maxRecDepth 20000 in
theorem gX2_encode_X2_encodeNumber : GoodIn wsX2_encode (va_wsS RX2 66 yX2_encodeNumber wsX2_encodeNumber) := goodIn_app (goodIn_r _ [15, 16, 10] rfl (by decide +kernel)) ggX2_encode_X2_encodeNumber
theorem dX2_encode_89 : decode cX2_encode 89 = .ok (.invokestatic 66, 3) := by decide +kernel
theorem dX2_encode_92 : decode cX2_encode 92 = .ok (.goto 8, 3) := by decide +kernel
theorem dX2_encode_101 : decode cX2_encode 101 = .ok (.aload_n 0, 1) := by decide +kernel
theorem dX2_encode_102 : decode cX2_encode 102 = .ok (.iload_n 1, 1) := by decide +kernel
set_option maxRecDepth 20000 in
theorem ggX2_encode_X2_toldCode : GoodIn wsX2_encode wsX2_toldCode := goodIn_r _ [21, 22, 23, 38, 39] rfl (by decide +kernel)
set_option maxRecDepth 20000 in
theorem gX2_encode_X2_toldCode : GoodIn wsX2_encode (wsV RX2 21 RX2 yX2_toldCode wsX2_toldCode) := goodIn_app (goodIn_r _ [18, 19, 20, 10] rfl (by decide +kernel)) ggX2_encode_X2_toldCode
theorem dX2_encode_103 : decode cX2_encode 103 = .ok (.invokevirtual 21, 3) := by decide +kernel
theorem dX2_encode_106 : decode cX2_encode 106 = .ok (.astore 4, 2) := by decide +kernel
theorem dX2_encode_108 : decode cX2_encode 108 = .ok (.aload 4, 2) := by decide +kernel
theorem dX2_encode_110 : decode cX2_encode 110 = .ok (.ifnonnull 7, 3) := by decide +kernel
theorem dX2_encode_117 : decode cX2_encode 117 = .ok (.aload 4, 2) := by decide +kernel
theorem dX2_encode_119 : decode cX2_encode 119 = .ok (.iload_n 2, 1) := by decide +kernel
set_option maxRecDepth 20000 in
theorem ggX2_encode_X10_byteFor : GoodIn wsX2_encode wsX10_byteFor := goodIn_r _ [28, 29, 30, 31, 32, 27, 33, 34, 35, 40, 41, 42, 43] rfl (by decide +kernel)
set_option maxRecDepth 20000 in
theorem gX2_encode_X10_byteFor : GoodIn wsX2_encode (wsV RX2 69 RX10 yX10_byteFor wsX10_byteFor) := goodIn_app (goodIn_r _ [24, 25, 26, 27] rfl (by decide +kernel)) ggX2_encode_X10_byteFor
theorem dX2_encode_120 : decode cX2_encode 120 = .ok (.invokevirtual 69, 3) := by decide +kernel
theorem dX2_encode_123 : decode cX2_encode 123 = .ok (.istore 5, 2) := by decide +kernel
theorem dX2_encode_125 : decode cX2_encode 125 = .ok (.iload 5, 2) := by decide +kernel
theorem dX2_encode_127 : decode cX2_encode 127 = .ok (.iconst (-1), 1) := by decide +kernel
theorem dX2_encode_128 : decode cX2_encode 128 = .ok (.if_icmp .eq 16, 3) := by decide +kernel
theorem dX2_encode_144 : decode cX2_encode 144 = .ok (.iconst 0, 1) := by decide +kernel
theorem dX2_encode_145 : decode cX2_encode 145 = .ok (.ireturn, 1) := by decide +kernel
theorem dX2_encode_131 : decode cX2_encode 131 = .ok (.aload_n 3, 1) := by decide +kernel
theorem dX2_encode_132 : decode cX2_encode 132 = .ok (.iload 5, 2) := by decide +kernel
theorem dX2_encode_134 : decode cX2_encode 134 = .ok (.invokevirtual 59, 3) := by decide +kernel
theorem dX2_encode_137 : decode cX2_encode 137 = .ok (.ifCond .eq 7, 3) := by decide +kernel
theorem dX2_encode_140 : decode cX2_encode 140 = .ok (.iconst 1, 1) := by decide +kernel
theorem dX2_encode_141 : decode cX2_encode 141 = .ok (.goto 4, 3) := by decide +kernel
theorem dX2_encode_113 : decode cX2_encode 113 = .ok (.iconst (-1), 1) := by decide +kernel
theorem dX2_encode_114 : decode cX2_encode 114 = .ok (.goto 9, 3) := by decide +kernel
theorem dX2_isWritten_0 : decode cX2_isWritten 0 = .ok (.iload_n 1, 1) := by decide +kernel
theorem dX2_isWritten_1 : decode cX2_isWritten 1 = .ok (.lookupswitch 67 #[(2, 27), (3, 54)], 27) := by decide +kernel
theorem dX2_isWritten_28 : decode cX2_isWritten 28 = .ok (.iload_n 2, 1) := by decide +kernel
theorem dX2_isWritten_29 : decode cX2_isWritten 29 = .ok (.sipush 192, 3) := by decide +kernel
theorem dX2_isWritten_32 : decode cX2_isWritten 32 = .ok (.if_icmp .lt 17, 3) := by decide +kernel
theorem dX2_isWritten_49 : decode cX2_isWritten 49 = .ok (.iconst 1, 1) := by decide +kernel
theorem dX2_isWritten_50 : decode cX2_isWritten 50 = .ok (.goto 4, 3) := by decide +kernel
theorem dX2_isWritten_54 : decode cX2_isWritten 54 = .ok (.ireturn, 1) := by decide +kernel
theorem dX2_isWritten_35 : decode cX2_isWritten 35 = .ok (.iload_n 2, 1) := by decide +kernel
theorem dX2_isWritten_36 : decode cX2_isWritten 36 = .ok (.sipush 193, 3) := by decide +kernel
theorem dX2_isWritten_39 : decode cX2_isWritten 39 = .ok (.if_icmp .le 14, 3) := by decide +kernel
theorem dX2_isWritten_53 : decode cX2_isWritten 53 = .ok (.iconst 0, 1) := by decide +kernel
theorem dX2_isWritten_42 : decode cX2_isWritten 42 = .ok (.iload_n 2, 1) := by decide +kernel
theorem dX2_isWritten_43 : decode cX2_isWritten 43 = .ok (.sipush 240, 3) := by decide +kernel
theorem dX2_isWritten_46 : decode cX2_isWritten 46 = .ok (.if_icmp .ge 7, 3) := by decide +kernel
theorem dX2_isWritten_55 : decode cX2_isWritten 55 = .ok (.iload_n 2, 1) := by decide +kernel
theorem dX2_isWritten_56 : decode cX2_isWritten 56 = .ok (.sipush 128, 3) := by decide +kernel
theorem dX2_isWritten_59 : decode cX2_isWritten 59 = .ok (.if_icmp .ge 7, 3) := by decide +kernel
theorem dX2_isWritten_66 : decode cX2_isWritten 66 = .ok (.iconst 0, 1) := by decide +kernel
theorem dX2_isWritten_67 : decode cX2_isWritten 67 = .ok (.ireturn, 1) := by decide +kernel
theorem dX2_isWritten_62 : decode cX2_isWritten 62 = .ok (.iconst 1, 1) := by decide +kernel
theorem dX2_isWritten_63 : decode cX2_isWritten 63 = .ok (.goto 4, 3) := by decide +kernel
theorem dX2_isWritten_68 : decode cX2_isWritten 68 = .ok (.aload_n 0, 1) := by decide +kernel
theorem dX2_isWritten_69 : decode cX2_isWritten 69 = .ok (.iload_n 1, 1) := by decide +kernel
theorem dX2_isWritten_70 : decode cX2_isWritten 70 = .ok (.iload_n 2, 1) := by decide +kernel
set_option maxRecDepth 20000 in
theorem ggX2_isWritten_X2_letterAlone : GoodIn wsX2_isWritten wsX2_letterAlone := goodIn_r _ [5, 6, 7, 8, 4, 9, 10, 11, 12, 13, 14, 15, 16, 17, 18, 19, 20, 21, 22, 23] rfl (by decide +kernel)
set_option maxRecDepth 20000 in
theorem gX2_isWritten_X2_letterAlone : GoodIn wsX2_isWritten (wsV RX2 38 RX2 yX2_letterAlone wsX2_letterAlone) := goodIn_app (goodIn_r _ [1, 2, 3, 4] rfl (by decide +kernel)) ggX2_isWritten_X2_letterAlone
theorem dX2_isWritten_71 : decode cX2_isWritten 71 = .ok (.invokevirtual 38, 3) := by decide +kernel
theorem dX2_isWritten_74 : decode cX2_isWritten 74 = .ok (.iconst (-1), 1) := by decide +kernel
theorem dX2_isWritten_75 : decode cX2_isWritten 75 = .ok (.if_icmp .eq 7, 3) := by decide +kernel
theorem dX2_isWritten_82 : decode cX2_isWritten 82 = .ok (.iconst 0, 1) := by decide +kernel
theorem dX2_isWritten_83 : decode cX2_isWritten 83 = .ok (.ireturn, 1) := by decide +kernel
theorem dX2_isWritten_78 : decode cX2_isWritten 78 = .ok (.iconst 1, 1) := by decide +kernel
theorem dX2_isWritten_79 : decode cX2_isWritten 79 = .ok (.goto 4, 3) := by decide +kernel
theorem dX2_neverLost_0 : decode cX2_neverLost 0 = .ok (.iload_n 1, 1) := by decide +kernel
theorem dX2_neverLost_1 : decode cX2_neverLost 1 = .ok (.iload_n 2, 1) := by decide +kernel
theorem dX2_neverLost_2 : decode cX2_neverLost 2 = .ok (.if_icmp .ne 5, 3) := by decide +kernel
theorem dX2_neverLost_7 : decode cX2_neverLost 7 = .ok (.iconst 0, 1) := by decide +kernel
theorem dX2_neverLost_8 : decode cX2_neverLost 8 = .ok (.istore_n 3, 1) := by decide +kernel
theorem dX2_neverLost_9 : decode cX2_neverLost 9 = .ok (.iload_n 3, 1) := by decide +kernel
theorem dX2_neverLost_10 : decode cX2_neverLost 10 = .ok (.sipush 256, 3) := by decide +kernel
theorem dX2_neverLost_13 : decode cX2_neverLost 13 = .ok (.if_icmp .ge 30, 3) := by decide +kernel
theorem dX2_neverLost_43 : decode cX2_neverLost 43 = .ok (.iconst 1, 1) := by decide +kernel
theorem dX2_neverLost_44 : decode cX2_neverLost 44 = .ok (.ireturn, 1) := by decide +kernel
theorem dX2_neverLost_16 : decode cX2_neverLost 16 = .ok (.aload_n 0, 1) := by decide +kernel
theorem dX2_neverLost_17 : decode cX2_neverLost 17 = .ok (.iload_n 1, 1) := by decide +kernel
theorem dX2_neverLost_18 : decode cX2_neverLost 18 = .ok (.iload_n 3, 1) := by decide +kernel
set_option maxRecDepth 20000 in
theorem ggX2_neverLost_X2_isWritten : GoodIn wsX2_neverLost wsX2_isWritten := goodIn_r _ [5, 6, 7, 8, 4, 9, 10, 11, 12, 13, 14, 15, 16, 17, 18, 19, 20, 21, 22, 23, 24, 25, 26, 27] rfl (by decide +kernel)
set_option maxRecDepth 20000 in
theorem gX2_neverLost_X2_isWritten : GoodIn wsX2_neverLost (wsV RX2 72 RX2 yX2_isWritten wsX2_isWritten) := goodIn_app (goodIn_r _ [1, 2, 3, 4] rfl (by decide +kernel)) ggX2_neverLost_X2_isWritten
theorem dX2_neverLost_19 : decode cX2_neverLost 19 = .ok (.invokevirtual 72, 3) := by decide +kernel
theorem dX2_neverLost_22 : decode cX2_neverLost 22 = .ok (.ifCond .eq 15, 3) := by decide +kernel
theorem dX2_neverLost_37 : decode cX2_neverLost 37 = .ok (.iinc 3 1, 3) := by decide +kernel
theorem dX2_neverLost_40 : decode cX2_neverLost 40 = .ok (.goto (-31), 3) := by decide +kernel
theorem dX2_neverLost_25 : decode cX2_neverLost 25 = .ok (.aload_n 0, 1) := by decide +kernel
theorem dX2_neverLost_26 : decode cX2_neverLost 26 = .ok (.iload_n 2, 1) := by decide +kernel
theorem dX2_neverLost_27 : decode cX2_neverLost 27 = .ok (.iload_n 3, 1) := by decide +kernel
set_option maxRecDepth 20000 in
theorem ggX2_neverLost_X2_letterAlone : GoodIn wsX2_neverLost wsX2_letterAlone := goodIn_r _ [9, 10, 11, 12, 4, 13, 14, 15, 16, 17, 18, 19, 20, 21, 22, 23, 24, 25, 26, 27] rfl (by decide +kernel)
set_option maxRecDepth 20000 in
theorem gX2_neverLost_X2_letterAlone : GoodIn wsX2_neverLost (wsV RX2 38 RX2 yX2_letterAlone wsX2_letterAlone) := goodIn_app (goodIn_r _ [6, 7, 8, 4] rfl (by decide +kernel)) ggX2_neverLost_X2_letterAlone
theorem dX2_neverLost_28 : decode cX2_neverLost 28 = .ok (.invokevirtual 38, 3) := by decide +kernel
theorem dX2_neverLost_31 : decode cX2_neverLost 31 = .ok (.iconst (-1), 1) := by decide +kernel
theorem dX2_neverLost_32 : decode cX2_neverLost 32 = .ok (.if_icmp .ne 5, 3) := by decide +kernel
theorem dX2_neverLost_35 : decode cX2_neverLost 35 = .ok (.iconst 0, 1) := by decide +kernel
theorem dX2_neverLost_36 : decode cX2_neverLost 36 = .ok (.ireturn, 1) := by decide +kernel
theorem dX2_neverLost_5 : decode cX2_neverLost 5 = .ok (.iconst 1, 1) := by decide +kernel
theorem dX2_neverLost_6 : decode cX2_neverLost 6 = .ok (.ireturn, 1) := by decide +kernel

end
