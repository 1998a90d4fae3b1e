set_option maxHeartbeats 40000000 in
set_option maxRecDepth 100000 in
theorem m_X1_told (l : Launch) (dC : Nat → ClassId) (dI : Nat → Nat → Nat) (cI cS : ClassId) (sz : Nat) (oW : Nat) (oC : Nat) (oK : Nat) (nw : Nat) (w1 : Nat) (w2 : Nat) (w3 : Nat) (o7 : Nat) (o8 : Nat) (o9 : Nat) (w4 : Nat) (w5 : Nat) (w6 : Nat) (w7 : Nat) (ke : Int32) (tl : Int32) (fsh : Int32) (wi : Int32) (ri : Int32) (fm : Int32) (lm : Int32) (fW4 : Nat → Int32) (fW5 : Nat → Int32) (fW6 : Nat → Int32) (fW7 : Nat → Int32) (i : Int32) (wh : Int32) (g_ke : 0 ≤ ke.toInt ∧ ke.toInt ≤ 200) (g_fsh : 0 ≤ fsh.toInt ∧ fsh.toInt ≤ 1) (g_fm : -1 ≤ fm.toInt ∧ fm.toInt ≤ 800) (g_lm : -1 ≤ lm.toInt ∧ lm.toInt ≤ 800) : Met l yX1_told wsX1_told ({ frames := 0, cells := 0, slots := 0, locals := 0 } : Room) (va_Pc [.ref oW, .int i, .int wh] (fun U => U.heap.size = sz ∧ va_P (dC, dI) vwCl [(oW, .inr (1, [.ref oC, .ref oK, .ref nw, .ref w1, .ref w2, .ref w3, .ref o7, .ref o8, .ref o9, .ref w4, .ref w5, .ref w6, .ref w7, .int ke, .int tl, .int fsh, .int wi, .int ri, .int fm, .int lm])), (w4, .inl (cI, 200, .inl fW4)), (w5, .inl (cI, 200, .inl fW5)), (w6, .inl (cI, 200, .inl fW6)), (w7, .inl (cI, 200, .inl fW7))] U.heap ∧ va_K (dC, dI) vwCl [(cI, .int), (cS, .short)] U ∧ va_D (fun _ => True) [(oW, .inr (1, [.ref oC, .ref oK, .ref nw, .ref w1, .ref w2, .ref w3, .ref o7, .ref o8, .ref o9, .ref w4, .ref w5, .ref w6, .ref w7, .int ke, .int tl, .int fsh, .int wi, .int ri, .int fm, .int lm])), (w4, .inl (cI, 200, .inl fW4)), (w5, .inl (cI, 200, .inl fW5)), (w6, .inl (cI, 200, .inl fW6)), (w7, .inl (cI, 200, .inl fW7))])) (va_Qi (fun (r : Int32) (u : Int32) => r = u) (fun (r : Int32) t => va_P (dC, dI) vwCl [(oW, .inr (1, [.ref oC, .ref oK, .ref nw, .ref w1, .ref w2, .ref w3, .ref o7, .ref o8, .ref o9, .ref w4, .ref w5, .ref w6, .ref w7, .int ke, .int tl, .int fsh, .int wi, .int ri, .int fm, .int lm])), (w4, .inl (cI, 200, .inl fW4)), (w5, .inl (cI, 200, .inl fW5)), (w6, .inl (cI, 200, .inl fW6)), (w7, .inl (cI, 200, .inl fW7))] t.heap ∧ va_D (va_A [(oW, .inr (1, [.ref oC, .ref oK, .ref nw, .ref w1, .ref w2, .ref w3, .ref o7, .ref o8, .ref o9, .ref w4, .ref w5, .ref w6, .ref w7, .int ke, .int tl, .int fsh, .int wi, .int ri, .int fm, .int lm])), (w4, .inl (cI, 200, .inl fW4)), (w5, .inl (cI, 200, .inl fW5)), (w6, .inl (cI, 200, .inl fW6)), (w7, .inl (cI, 200, .inl fW7))] sz) [(oW, .inr (1, [.ref oC, .ref oK, .ref nw, .ref w1, .ref w2, .ref w3, .ref o7, .ref o8, .ref o9, .ref w4, .ref w5, .ref w6, .ref w7, .int ke, .int tl, .int fsh, .int wi, .int ri, .int fm, .int lm])), (w4, .inl (cI, 200, .inl fW4)), (w5, .inl (cI, 200, .inl fW5)), (w6, .inl (cI, 200, .inl fW6)), (w7, .inl (cI, 200, .inl fW7))]) (va_A [(oW, .inr (1, [.ref oC, .ref oK, .ref nw, .ref w1, .ref w2, .ref w3, .ref o7, .ref o8, .ref o9, .ref w4, .ref w5, .ref w6, .ref w7, .int ke, .int tl, .int fsh, .int wi, .int ri, .int fm, .int lm])), (w4, .inl (cI, 200, .inl fW4)), (w5, .inl (cI, 200, .inl fW5)), (w6, .inl (cI, 200, .inl fW6)), (w7, .inl (cI, 200, .inl fW7))] sz)) 0 0 (va_A [(oW, .inr (1, [.ref oC, .ref oK, .ref nw, .ref w1, .ref w2, .ref w3, .ref o7, .ref o8, .ref o9, .ref w4, .ref w5, .ref w6, .ref w7, .int ke, .int tl, .int fsh, .int wi, .int ri, .int fm, .int lm])), (w4, .inl (cI, 200, .inl fW4)), (w5, .inl (cI, 200, .inl fW5)), (w6, .inl (cI, 200, .inl fW6)), (w7, .inl (cI, 200, .inl fW7))] sz) := by
  refine Met.ofW (cc := cX1_told) (maxL := 3) (ret := (some .int)) (by decide) rfl ?_
  intro p e s m args below meth c s₁ B hml hv
  obtain ⟨rfl, hsz, hP, hK, hD0⟩ := hv
  have hx := B.exec
  have hb := B.bytes
  have hr := B.returns
  have hts := atoms_spec (ws := wsX1_told) B.pre
  have hown : s.vm.findClass RX1 = some m.cls := findClass_of_methodNamed B.named
  have hlocks := B.notSynchronized
  have in_X1 : ∀ w ∈ wsX10, w ∈ wsX1_told := fun _ h => List.mem_cons_of_mem _ (List.mem_append_right _ (h))
  subst hsz
  have hD := hD0.self (sz := s.heap.size)
  generalize hAe : va_A [(oW, .inr (1, [.ref oC, .ref oK, .ref nw, .ref w1, .ref w2, .ref w3, .ref o7, .ref o8, .ref o9, .ref w4, .ref w5, .ref w6, .ref w7, .int ke, .int tl, .int fsh, .int wi, .int ri, .int fm, .int lm])), (w4, .inl (cI, 200, .inl fW4)), (w5, .inl (cI, 200, .inl fW5)), (w6, .inl (cI, 200, .inl fW6)), (w7, .inl (cI, 200, .inl fW7))] s.heap.size = A at hD ⊢
  have hA : ∀ q : Nat, s.heap.size ≤ q → A q := fun q h => by rw [← hAe]; exact Or.inr h
  have hS : va_S A s.heap s.heap [] := va_S.rf
  have hP : va_P (dC, dI) vwCl [(oW, .inr (1, [.ref oC, .ref oK, .ref nw, .ref w1, .ref w2, .ref w3, .ref o7, .ref o8, .ref o9, .ref w4, .ref w5, .ref w6, .ref w7, .int ke, .int tl, .int fsh, .int wi, .int ri, .int fm, .int lm])), (w4, .inl (cI, 200, .inl fW4)), (w5, .inl (cI, 200, .inl fW5)), (w6, .inl (cI, 200, .inl fW6)), (w7, .inl (cI, 200, .inl fW7))] s.heap := hP
  have hl := lv_entry ([.ref oW, .int i, .int wh]) (n := 3) (Nat.le_of_ble_eq_true rfl)
  rw [lg_entry_eq]
  generalize (lg_sl ([.ref oW, .int i, .int wh]) ++ List.replicate (3 - (lg_sl ([.ref oW, .int i, .int wh])).length) Slot.unset).toArray = ls at hl ⊢
  have hl : lv_has ls 3 [(0, .ref oW), (1, .int i), (2, .int wh)] := hl
  obtain ⟨QQ, hQQ⟩ : ∃ QQ : Array Value → State → Outcome → State → Prop, QQ = va_Qi (fun (r : Int32) (u : Int32) => r = u) (fun (r : Int32) t => va_P (dC, dI) vwCl [(oW, .inr (1, [.ref oC, .ref oK, .ref nw, .ref w1, .ref w2, .ref w3, .ref o7, .ref o8, .ref o9, .ref w4, .ref w5, .ref w6, .ref w7, .int ke, .int tl, .int fsh, .int wi, .int ri, .int fm, .int lm])), (w4, .inl (cI, 200, .inl fW4)), (w5, .inl (cI, 200, .inl fW5)), (w6, .inl (cI, 200, .inl fW6)), (w7, .inl (cI, 200, .inl fW7))] t.heap ∧ va_D A [(oW, .inr (1, [.ref oC, .ref oK, .ref nw, .ref w1, .ref w2, .ref w3, .ref o7, .ref o8, .ref o9, .ref w4, .ref w5, .ref w6, .ref w7, .int ke, .int tl, .int fsh, .int wi, .int ri, .int fm, .int lm])), (w4, .inl (cI, 200, .inl fW4)), (w5, .inl (cI, 200, .inl fW5)), (w6, .inl (cI, 200, .inl fW6)), (w7, .inl (cI, 200, .inl fW7))]) A := ⟨_, rfl⟩
  rw [← hQQ]
  refine lv_iload_n hx hb dX1_told_0 rfl (lv_at hl 1 rfl) ?_
  refine lv_if_lt (tgt := 12) hx hb dX1_told_1 (by decide) (fun c_1 => ?_) (fun c_1 => ?_)
  · have tc_1 : i.toInt < 0 := v_lt c_1
    refine lv_iconst (v := (-1)) hx hb dX1_told_12 (by decide) ?_
    have hP9 := hP.sub (ws' := [(oW, .inr (1, [.ref oC, .ref oK, .ref nw, .ref w1, .ref w2, .ref w3, .ref o7, .ref o8, .ref o9, .ref w4, .ref w5, .ref w6, .ref w7, .int ke, .int tl, .int fsh, .int wi, .int ri, .int fm, .int lm])), (w4, .inl (cI, 200, .inl fW4)), (w5, .inl (cI, 200, .inl fW5)), (w6, .inl (cI, 200, .inl fW6)), (w7, .inl (cI, 200, .inl fW7))]) [0, 1, 2, 3, 4] rfl
    have hD9 := hD.sub (ws' := [(oW, .inr (1, [.ref oC, .ref oK, .ref nw, .ref w1, .ref w2, .ref w3, .ref o7, .ref o8, .ref o9, .ref w4, .ref w5, .ref w6, .ref w7, .int ke, .int tl, .int fsh, .int wi, .int ri, .int fm, .int lm])), (w4, .inl (cI, 200, .inl fW4)), (w5, .inl (cI, 200, .inl fW5)), (w6, .inl (cI, 200, .inl fW6)), (w7, .inl (cI, 200, .inl fW7))]) [0, 1, 2, 3, 4] (by decide) rfl
    rw [hQQ]
    exact W.iret (v := (-1)) hx hb hr (fun t ht hW => ⟨⟨(-1), (-1), rfl, rfl, ⟨by rw [ht]; exact hP9, hD9⟩⟩, hS.F ht⟩) hS.2.2 dX1_told_13
  · have tc_1 : 0 ≤ i.toInt := v_nlt c_1
    refine lv_iload_n hx hb dX1_told_4 rfl (lv_at hl 1 rfl) ?_
    refine lv_aload_n hx hb dX1_told_5 rfl (lv_at hl 0 rfl) ?_
    refine va_get (D := (dC, dI)) (ci := 1) (v := .int ke) (C := RX1) (T := TX1) (N := 20) hx hb hts in_X1 hown hK hP 0 rfl rfl 13 (by decide) (hts (.fieldLink RX1 65 "TextMender$Choices" "kept" "I") (List.mem_of_getElem? (i := 1) rfl)) (fun _ h9 => h9) rfl dX1_told_6 ?_
    refine lv_icmp_lt (tgt := 14) hx hb dX1_told_9 (by decide) (fun c_2 => ?_) (fun c_2 => ?_)
    · have tc_2 : i.toInt < ke.toInt := v_lt c_2
      have rw2_0 := v_rng i
      refine lv_iload_n hx hb dX1_told_14 rfl (lv_at hl 2 rfl) ?_
      by_cases c_3 : wh = 0
      · refine lv_tableIn (tgt := 44) hx hb dX1_told_15 (by rw [c_3]; decide) (by rw [c_3]; decide) (by rw [c_3]; rfl) (by decide) ?_
        have tc_3 : wh.toInt = 0 := v_eq c_3
        refine lv_aload_n hx hb dX1_told_44 rfl (lv_at hl 0 rfl) ?_
        refine va_get (D := (dC, dI)) (ci := 1) (v := .ref w4) (C := RX1) (T := TX1) (N := 20) hx hb hts in_X1 hown hK hP 0 rfl rfl 9 (by decide) (hts (.fieldLink RX1 30 "TextMender$Choices" "firstByte" "[I") (List.mem_of_getElem? (i := 2) rfl)) (fun _ h9 => h9) rfl dX1_told_45 ?_
        refine lv_iload_n hx hb dX1_told_48 rfl (lv_at hl 1 rfl) ?_
        refine va_iald hx hb hK hP 1 0 rfl rfl (v_in (by omega)) dX1_told_49 ?_
        refine lv_topi (fun x_4 ex_4 => ?_)
        have hP9 := hP.sub (ws' := [(oW, .inr (1, [.ref oC, .ref oK, .ref nw, .ref w1, .ref w2, .ref w3, .ref o7, .ref o8, .ref o9, .ref w4, .ref w5, .ref w6, .ref w7, .int ke, .int tl, .int fsh, .int wi, .int ri, .int fm, .int lm])), (w4, .inl (cI, 200, .inl fW4)), (w5, .inl (cI, 200, .inl fW5)), (w6, .inl (cI, 200, .inl fW6)), (w7, .inl (cI, 200, .inl fW7))]) [0, 1, 2, 3, 4] rfl
        have hD9 := hD.sub (ws' := [(oW, .inr (1, [.ref oC, .ref oK, .ref nw, .ref w1, .ref w2, .ref w3, .ref o7, .ref o8, .ref o9, .ref w4, .ref w5, .ref w6, .ref w7, .int ke, .int tl, .int fsh, .int wi, .int ri, .int fm, .int lm])), (w4, .inl (cI, 200, .inl fW4)), (w5, .inl (cI, 200, .inl fW5)), (w6, .inl (cI, 200, .inl fW6)), (w7, .inl (cI, 200, .inl fW7))]) [0, 1, 2, 3, 4] (by decide) rfl
        rw [hQQ]
        exact W.iret (v := x_4) hx hb hr (fun t ht hW => ⟨⟨x_4, x_4, rfl, rfl, ⟨by rw [ht]; exact hP9, hD9⟩⟩, hS.F ht⟩) hS.2.2 dX1_told_50
      · skip
        have tc_3 : ¬ wh.toInt = 0 := v_ne c_3
        by_cases c_5 : wh = 1
        · refine lv_tableIn (tgt := 51) hx hb dX1_told_15 (by rw [c_5]; decide) (by rw [c_5]; decide) (by rw [c_5]; rfl) (by decide) ?_
          have tc_5 : wh.toInt = 1 := v_eq c_5
          refine lv_aload_n hx hb dX1_told_51 rfl (lv_at hl 0 rfl) ?_
          refine va_get (D := (dC, dI)) (ci := 1) (v := .ref w5) (C := RX1) (T := TX1) (N := 20) hx hb hts in_X1 hown hK hP 0 rfl rfl 10 (by decide) (hts (.fieldLink RX1 33 "TextMender$Choices" "secondByte" "[I") (List.mem_of_getElem? (i := 3) rfl)) (fun _ h9 => h9) rfl dX1_told_52 ?_
          refine lv_iload_n hx hb dX1_told_55 rfl (lv_at hl 1 rfl) ?_
          refine va_iald hx hb hK hP 2 0 rfl rfl (v_in (by omega)) dX1_told_56 ?_
          refine lv_topi (fun x_6 ex_6 => ?_)
          have hP9 := hP.sub (ws' := [(oW, .inr (1, [.ref oC, .ref oK, .ref nw, .ref w1, .ref w2, .ref w3, .ref o7, .ref o8, .ref o9, .ref w4, .ref w5, .ref w6, .ref w7, .int ke, .int tl, .int fsh, .int wi, .int ri, .int fm, .int lm])), (w4, .inl (cI, 200, .inl fW4)), (w5, .inl (cI, 200, .inl fW5)), (w6, .inl (cI, 200, .inl fW6)), (w7, .inl (cI, 200, .inl fW7))]) [0, 1, 2, 3, 4] rfl
          have hD9 := hD.sub (ws' := [(oW, .inr (1, [.ref oC, .ref oK, .ref nw, .ref w1, .ref w2, .ref w3, .ref o7, .ref o8, .ref o9, .ref w4, .ref w5, .ref w6, .ref w7, .int ke, .int tl, .int fsh, .int wi, .int ri, .int fm, .int lm])), (w4, .inl (cI, 200, .inl fW4)), (w5, .inl (cI, 200, .inl fW5)), (w6, .inl (cI, 200, .inl fW6)), (w7, .inl (cI, 200, .inl fW7))]) [0, 1, 2, 3, 4] (by decide) rfl
          rw [hQQ]
          exact W.iret (v := x_6) hx hb hr (fun t ht hW => ⟨⟨x_6, x_6, rfl, rfl, ⟨by rw [ht]; exact hP9, hD9⟩⟩, hS.F ht⟩) hS.2.2 dX1_told_57
        · skip
          have tc_5 : ¬ wh.toInt = 1 := v_ne c_5
          by_cases c_7 : wh = 2
          · refine lv_tableIn (tgt := 58) hx hb dX1_told_15 (by rw [c_7]; decide) (by rw [c_7]; decide) (by rw [c_7]; rfl) (by decide) ?_
            have tc_7 : wh.toInt = 2 := v_eq c_7
            refine lv_aload_n hx hb dX1_told_58 rfl (lv_at hl 0 rfl) ?_
            refine va_get (D := (dC, dI)) (ci := 1) (v := .ref w6) (C := RX1) (T := TX1) (N := 20) hx hb hts in_X1 hown hK hP 0 rfl rfl 11 (by decide) (hts (.fieldLink RX1 36 "TextMender$Choices" "costOf" "[I") (List.mem_of_getElem? (i := 4) rfl)) (fun _ h9 => h9) rfl dX1_told_59 ?_
            refine lv_iload_n hx hb dX1_told_62 rfl (lv_at hl 1 rfl) ?_
            refine va_iald hx hb hK hP 3 0 rfl rfl (v_in (by omega)) dX1_told_63 ?_
            refine lv_topi (fun x_8 ex_8 => ?_)
            have hP9 := hP.sub (ws' := [(oW, .inr (1, [.ref oC, .ref oK, .ref nw, .ref w1, .ref w2, .ref w3, .ref o7, .ref o8, .ref o9, .ref w4, .ref w5, .ref w6, .ref w7, .int ke, .int tl, .int fsh, .int wi, .int ri, .int fm, .int lm])), (w4, .inl (cI, 200, .inl fW4)), (w5, .inl (cI, 200, .inl fW5)), (w6, .inl (cI, 200, .inl fW6)), (w7, .inl (cI, 200, .inl fW7))]) [0, 1, 2, 3, 4] rfl
            have hD9 := hD.sub (ws' := [(oW, .inr (1, [.ref oC, .ref oK, .ref nw, .ref w1, .ref w2, .ref w3, .ref o7, .ref o8, .ref o9, .ref w4, .ref w5, .ref w6, .ref w7, .int ke, .int tl, .int fsh, .int wi, .int ri, .int fm, .int lm])), (w4, .inl (cI, 200, .inl fW4)), (w5, .inl (cI, 200, .inl fW5)), (w6, .inl (cI, 200, .inl fW6)), (w7, .inl (cI, 200, .inl fW7))]) [0, 1, 2, 3, 4] (by decide) rfl
            rw [hQQ]
            exact W.iret (v := x_8) hx hb hr (fun t ht hW => ⟨⟨x_8, x_8, rfl, rfl, ⟨by rw [ht]; exact hP9, hD9⟩⟩, hS.F ht⟩) hS.2.2 dX1_told_64
          · skip
            have tc_7 : ¬ wh.toInt = 2 := v_ne c_7
            by_cases c_9 : wh = 3
            · refine lv_tableIn (tgt := 65) hx hb dX1_told_15 (by rw [c_9]; decide) (by rw [c_9]; decide) (by rw [c_9]; rfl) (by decide) ?_
              have tc_9 : wh.toInt = 3 := v_eq c_9
              refine lv_aload_n hx hb dX1_told_65 rfl (lv_at hl 0 rfl) ?_
              refine va_get (D := (dC, dI)) (ci := 1) (v := .ref w7) (C := RX1) (T := TX1) (N := 20) hx hb hts in_X1 hown hK hP 0 rfl rfl 12 (by decide) (hts (.fieldLink RX1 39 "TextMender$Choices" "lengthOf" "[I") (List.mem_of_getElem? (i := 5) rfl)) (fun _ h9 => h9) rfl dX1_told_66 ?_
              refine lv_iload_n hx hb dX1_told_69 rfl (lv_at hl 1 rfl) ?_
              refine va_iald hx hb hK hP 4 0 rfl rfl (v_in (by omega)) dX1_told_70 ?_
              refine lv_topi (fun x_10 ex_10 => ?_)
              have hP9 := hP.sub (ws' := [(oW, .inr (1, [.ref oC, .ref oK, .ref nw, .ref w1, .ref w2, .ref w3, .ref o7, .ref o8, .ref o9, .ref w4, .ref w5, .ref w6, .ref w7, .int ke, .int tl, .int fsh, .int wi, .int ri, .int fm, .int lm])), (w4, .inl (cI, 200, .inl fW4)), (w5, .inl (cI, 200, .inl fW5)), (w6, .inl (cI, 200, .inl fW6)), (w7, .inl (cI, 200, .inl fW7))]) [0, 1, 2, 3, 4] rfl
              have hD9 := hD.sub (ws' := [(oW, .inr (1, [.ref oC, .ref oK, .ref nw, .ref w1, .ref w2, .ref w3, .ref o7, .ref o8, .ref o9, .ref w4, .ref w5, .ref w6, .ref w7, .int ke, .int tl, .int fsh, .int wi, .int ri, .int fm, .int lm])), (w4, .inl (cI, 200, .inl fW4)), (w5, .inl (cI, 200, .inl fW5)), (w6, .inl (cI, 200, .inl fW6)), (w7, .inl (cI, 200, .inl fW7))]) [0, 1, 2, 3, 4] (by decide) rfl
              rw [hQQ]
              exact W.iret (v := x_10) hx hb hr (fun t ht hW => ⟨⟨x_10, x_10, rfl, rfl, ⟨by rw [ht]; exact hP9, hD9⟩⟩, hS.F ht⟩) hS.2.2 dX1_told_71
            · skip
              have tc_9 : ¬ wh.toInt = 3 := v_ne c_9
              refine lv_tableOut (tgt := 72) hx hb dX1_told_15 (by omega) (by decide) ?_
              refine lv_iconst (v := (-1)) hx hb dX1_told_72 (by decide) ?_
              have hP9 := hP.sub (ws' := [(oW, .inr (1, [.ref oC, .ref oK, .ref nw, .ref w1, .ref w2, .ref w3, .ref o7, .ref o8, .ref o9, .ref w4, .ref w5, .ref w6, .ref w7, .int ke, .int tl, .int fsh, .int wi, .int ri, .int fm, .int lm])), (w4, .inl (cI, 200, .inl fW4)), (w5, .inl (cI, 200, .inl fW5)), (w6, .inl (cI, 200, .inl fW6)), (w7, .inl (cI, 200, .inl fW7))]) [0, 1, 2, 3, 4] rfl
              have hD9 := hD.sub (ws' := [(oW, .inr (1, [.ref oC, .ref oK, .ref nw, .ref w1, .ref w2, .ref w3, .ref o7, .ref o8, .ref o9, .ref w4, .ref w5, .ref w6, .ref w7, .int ke, .int tl, .int fsh, .int wi, .int ri, .int fm, .int lm])), (w4, .inl (cI, 200, .inl fW4)), (w5, .inl (cI, 200, .inl fW5)), (w6, .inl (cI, 200, .inl fW6)), (w7, .inl (cI, 200, .inl fW7))]) [0, 1, 2, 3, 4] (by decide) rfl
              rw [hQQ]
              exact W.iret (v := (-1)) hx hb hr (fun t ht hW => ⟨⟨(-1), (-1), rfl, rfl, ⟨by rw [ht]; exact hP9, hD9⟩⟩, hS.F ht⟩) hS.2.2 dX1_told_73
    · have tc_2 : ke.toInt ≤ i.toInt := v_nlt c_2
      have rw2_0 := v_rng i
      refine lv_iconst (v := (-1)) hx hb dX1_told_12 (by decide) ?_
      have hP9 := hP.sub (ws' := [(oW, .inr (1, [.ref oC, .ref oK, .ref nw, .ref w1, .ref w2, .ref w3, .ref o7, .ref o8, .ref o9, .ref w4, .ref w5, .ref w6, .ref w7, .int ke, .int tl, .int fsh, .int wi, .int ri, .int fm, .int lm])), (w4, .inl (cI, 200, .inl fW4)), (w5, .inl (cI, 200, .inl fW5)), (w6, .inl (cI, 200, .inl fW6)), (w7, .inl (cI, 200, .inl fW7))]) [0, 1, 2, 3, 4] rfl
      have hD9 := hD.sub (ws' := [(oW, .inr (1, [.ref oC, .ref oK, .ref nw, .ref w1, .ref w2, .ref w3, .ref o7, .ref o8, .ref o9, .ref w4, .ref w5, .ref w6, .ref w7, .int ke, .int tl, .int fsh, .int wi, .int ri, .int fm, .int lm])), (w4, .inl (cI, 200, .inl fW4)), (w5, .inl (cI, 200, .inl fW5)), (w6, .inl (cI, 200, .inl fW6)), (w7, .inl (cI, 200, .inl fW7))]) [0, 1, 2, 3, 4] (by decide) rfl
      rw [hQQ]
      exact W.iret (v := (-1)) hx hb hr (fun t ht hW => ⟨⟨(-1), (-1), rfl, rfl, ⟨by rw [ht]; exact hP9, hD9⟩⟩, hS.F ht⟩) hS.2.2 dX1_told_13
